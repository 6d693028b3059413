import java.io.IOException;
import java.lang.reflect.Method;
import java.lang.reflect.Modifier;
import java.nio.file.DirectoryStream;
import java.nio.file.Files;
import java.nio.file.Path;
import java.util.regex.Pattern;

/** README.md: its example answers as it says, and it names every call and every test. */
final class ReadmeTest {
    private static final Check CHECK = new Check();

    private final String readme;

    private ReadmeTest(String readme) {
        this.readme = readme;
    }

    public static void main(String[] args) throws IOException {
        ReadmeTest test = new ReadmeTest(Files.readString(Path.of("README.md")));
        test.exampleAnswersAsItSays();
        test.everyCallIsNamed();
        test.everyTestIsNamed();
        CHECK.end();
    }

    private void exampleAnswersAsItSays() {
        StakeWeirs estuary = new StakeWeirs();
        int weir = estuary.weir(5, 20, 10);
        said("int weir = estuary.weir(5, 20, 10);", weir);
        int barge = estuary.barge(15);
        said("int barge = estuary.barge(15);", barge);
        said("estuary.catches(weir);", estuary.catches(weir));
        said("estuary.arrives(barge);", estuary.arrives(barge));
        said("estuary.pass(4);", estuary.pass(4));
        said("estuary.sell(weir);", estuary.sell(weir));
        said("estuary.mend(weir, 20);", estuary.mend(weir, 20));
        said("estuary.drive(weir, 5);", estuary.drive(weir, 5));
        said("estuary.about(weir, 4);", estuary.about(weir, 4));
        said("estuary.pass(5);", estuary.pass(5));
        int calls = readme.split(" estuary\\.|\nestuary\\.", -1).length - 1;
        CHECK.due("calls of the example that are tried here", 10, calls);
    }

    private void said(String call, int answer) {
        String line = "(?m)^" + Pattern.quote(call) + " +// " + answer + ": .+$";
        CHECK.due("README.md has " + call + " with " + answer, true,
                Pattern.compile(line).matcher(readme).find());
    }

    private void everyCallIsNamed() {
        for (Method method : StakeWeirs.class.getDeclaredMethods()) {
            if (Modifier.isPublic(method.getModifiers())) {
                CHECK.due("README.md has a row for " + method.getName(), true,
                        readme.contains("\n| `" + method.getName() + "("));
            }
        }
    }

    private void everyTestIsNamed() throws IOException {
        try (DirectoryStream<Path> tests =
                Files.newDirectoryStream(Path.of("src/test/java"), "*Test.java")) {
            for (Path test : tests) {
                String name = test.getFileName().toString().replace(".java", "");
                CHECK.due("README.md has a row for " + name, true,
                        readme.contains("\n| " + name + " |"));
            }
        }
    }
}
