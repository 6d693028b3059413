/** Counts the answers of one test that are not the due ones. */
final class Check {
    static final Class<? extends RuntimeException> ARGUMENT = IllegalArgumentException.class;
    static final Class<? extends RuntimeException> STATE = IllegalStateException.class;
    static final Class<? extends RuntimeException> INDEX = IndexOutOfBoundsException.class;

    private int wrong;

    void due(String call, Object want, Object got) {
        if (!want.equals(got)) {
            wrong++;
            System.out.println(call + " answered " + got + ", due is " + want);
        }
    }

    /** Checks that a call throws just this exception, and that the estuary is the same then. */
    void refused(String call, Class<? extends RuntimeException> want, StakeWeirs estuary,
            Runnable action) {
        long before = estuary.digest();
        due(call + " as to what it throws", want.getName(), thrownBy(action));
        due("digest() behind " + call, before, estuary.digest());
    }

    /** Checks that questions change nothing. */
    void unchanged(String call, StakeWeirs estuary, Runnable action) {
        long before = estuary.digest();
        due(call + " as to what it throws", "nothing", thrownBy(action));
        due("digest() behind " + call, before, estuary.digest());
    }

    private static String thrownBy(Runnable action) {
        try {
            action.run();
            return "nothing";
        } catch (RuntimeException e) {
            return e.getClass().getName();
        }
    }

    void end() {
        if (wrong > 0) {
            System.out.println(wrong + " answers are not as due");
            System.exit(1);
        }
    }
}
