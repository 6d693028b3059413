import java.util.Random;
import java.util.function.Function;

/** Runs of calls drawn from fixed seeds, each answer and each digest held against the model's. */
final class RandomRunsTest {
    private static final int RUNS = 400;
    private static final int CALLS = 256;

    private static final Check CHECK = new Check();

    private final Random random;
    private final StakeWeirs estuary = new StakeWeirs();
    private final Model model = new Model();
    private final int run;

    private RandomRunsTest(int run) {
        this.run = run;
        random = new Random(run);
    }

    public static void main(String[] args) {
        for (int run = 0; run < RUNS; run++) {
            new RandomRunsTest(run).goOn();
        }
        CHECK.end();
    }

    private void goOn() {
        for (int i = 0; i < CALLS; i++) {
            if (random.nextInt(3) == 0) {
                act();
            } else {
                ask();
            }
            CHECK.due("run " + run + ": digest()", model.digest(), estuary.digest());
        }
    }

    /** Mostly within the bounds, at times at their edges or just beyond them. */
    private int near(int least, int most) {
        switch (random.nextInt(12)) {
            case 0: return least;
            case 1: return most;
            case 2: return random.nextInt(4) > 0 ? most : most + 1;
            case 3: return random.nextInt(4) > 0 ? least : least - 1;
            default: return least + random.nextInt(most - least + 1);
        }
    }

    private int weirNumber() {
        return near(0, Math.max(0, model.count(3) - 1));
    }

    private int bargeNumber() {
        return near(0, Math.max(0, model.count(5) - 1));
    }

    private void act() {
        int w = weirNumber();
        switch (random.nextInt(9)) {
            case 0: {
                int place = near(0, 39);
                int stakes = near(1, 30);
                int rent = near(0, random.nextBoolean() ? 50 : 12);
                same("weir " + place + " " + stakes + " " + rent,
                        m -> m.weir(place, stakes, rent), x -> x.weir(place, stakes, rent));
                break;
            }
            case 1:
                same("gate " + w, m -> m.gate(w), x -> x.gate(w) ? 1 : 0);
                break;
            case 2: {
                int much = near(1, random.nextBoolean() ? 100 : 30);
                same("mend " + w + " " + much, m -> m.mend(w, much), x -> x.mend(w, much));
                break;
            }
            case 3: {
                int stakes = near(1, random.nextBoolean() ? 30 : 8);
                same("drive " + w + " " + stakes, m -> m.drive(w, stakes),
                        x -> x.drive(w, stakes));
                break;
            }
            case 4:
                same("sell " + w, m -> m.sell(w), x -> x.sell(w));
                break;
            case 5: {
                int night = near(0, 6);
                int eels = near(0, 99);
                same("setRun " + night + " " + eels, m -> m.setRun(night, eels),
                        x -> x.setRun(night, eels));
                break;
            }
            case 6: {
                int wide = near(1, 20);
                same("barge " + wide, m -> m.barge(wide), x -> x.barge(wide));
                break;
            }
            default: {
                int nights = near(1, random.nextInt(20) == 0 ? 60 : 4);
                same("pass " + nights, m -> m.pass(nights), x -> x.pass(nights));
                break;
            }
        }
    }

    private void ask() {
        int w = weirNumber();
        int b = bargeNumber();
        int any = near(0, 9);
        int nights = near(1, random.nextBoolean() ? 56 : 20);
        switch (random.nextInt(11)) {
            case 0:
                same("about " + w + " " + any, m -> m.about(w, any), x -> x.about(w, any));
                break;
            case 1:
                same("told " + b + " " + any, m -> m.told(b, any), x -> x.told(b, any));
                break;
            case 2:
                same("count " + any, m -> m.count(any), x -> x.count(any));
                break;
            case 3:
                same("hinders " + nights, m -> m.hinders(nights), x -> x.hinders(nights));
                break;
            case 4:
                same("richest", m -> m.richest(), x -> x.richest());
                break;
            case 5:
                same("catches " + w, m -> m.catches(w), x -> x.catches(w));
                break;
            case 6:
                same("arrives " + b, m -> m.arrives(b), x -> x.arrives(b));
                break;
            case 7:
                same("lasts " + w, m -> m.lasts(w), x -> x.lasts(w));
                break;
            case 8:
                same("foresee " + nights + " " + any, m -> m.foresee(nights, any),
                        x -> x.foresee(nights, any));
                break;
            case 9:
                same("advise " + w + " " + nights, m -> m.advise(w, nights),
                        x -> x.advise(w, nights));
                break;
            default:
                same("mean", m -> m.mean(), x -> x.mean());
                break;
        }
    }

    private void same(String call, Function<Model, Object> want, Function<StakeWeirs, Object> got) {
        CHECK.due("run " + run + ": " + call, answer(want, model), answer(got, estuary));
    }

    private static <T> Object answer(Function<T, Object> call, T of) {
        try {
            return call.apply(of);
        } catch (RuntimeException e) {
            return e.getClass().getName();
        }
    }
}
