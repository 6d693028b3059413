import java.util.Arrays;
import java.util.function.Function;

/**
 * Every call with arguments at, beyond and far beyond all bounds, in an estuary that is empty, one
 * that is full, one that is worn and one before the third rent that is owed, held against the
 * model: nothing else is ever thrown than what the document names, and nothing is changed where it
 * is thrown.
 */
final class ArgumentSweepTest {
    private static final Check CHECK = new Check();

    private static final int FULL = 1;
    private static final int WORN = 2;
    private static final int BEFORE_THE_THIRD_RENT = 3;
    private static final int STATES = 4;

    private static final int WEIR = 0;
    private static final int BARGE = 1;
    private static final int PASS = 2;
    private static final int SELL = 3;
    private static final int GATE = 4;

    private static final int[] FEW = {Integer.MIN_VALUE, -1, 0, 1, 7, 30, 31, 39, 40, 50, 51,
        Integer.MAX_VALUE};
    private static final int[] MANY = {Integer.MIN_VALUE, Integer.MIN_VALUE + 1, -100, -2, -1, 0,
        1, 2, 3, 4, 5, 6, 7, 8, 9, 10, 11, 19, 20, 21, 29, 30, 31, 39, 40, 50, 51, 55, 56, 57, 59,
        60, 61, 95, 96, 99, 100, 101, Integer.MAX_VALUE - 1, Integer.MAX_VALUE};

    public static void main(String[] args) {
        for (int state = 0; state < STATES; state++) {
            sweepWeir(state);
            for (int a : MANY) {
                sweepOfOne(state, a);
                for (int b : MANY) {
                    sweepOfTwo(state, a, b);
                }
            }
            same(state, "richest()", m -> m.richest(), x -> x.richest());
            same(state, "mean()", m -> m.mean(), x -> x.mean());
        }
        CHECK.end();
    }

    private static void sweepWeir(int state) {
        for (int a : FEW) {
            for (int b : FEW) {
                for (int c : FEW) {
                    same(state, "weir" + Arrays.asList(a, b, c), m -> m.weir(a, b, c),
                            x -> x.weir(a, b, c));
                }
            }
        }
    }

    private static void sweepOfOne(int state, int a) {
        same(state, "gate(" + a + ")", m -> m.gate(a), x -> x.gate(a) ? 1 : 0);
        same(state, "sell(" + a + ")", m -> m.sell(a), x -> x.sell(a));
        same(state, "barge(" + a + ")", m -> m.barge(a), x -> x.barge(a));
        same(state, "count(" + a + ")", m -> m.count(a), x -> x.count(a));
        same(state, "hinders(" + a + ")", m -> m.hinders(a), x -> x.hinders(a));
        same(state, "pass(" + a + ")", m -> m.pass(a), x -> x.pass(a));
        same(state, "catches(" + a + ")", m -> m.catches(a), x -> x.catches(a));
        same(state, "arrives(" + a + ")", m -> m.arrives(a), x -> x.arrives(a));
        same(state, "lasts(" + a + ")", m -> m.lasts(a), x -> x.lasts(a));
    }

    private static void sweepOfTwo(int state, int a, int b) {
        String of = Arrays.asList(a, b).toString();
        same(state, "mend" + of, m -> m.mend(a, b), x -> x.mend(a, b));
        same(state, "drive" + of, m -> m.drive(a, b), x -> x.drive(a, b));
        same(state, "setRun" + of, m -> m.setRun(a, b), x -> x.setRun(a, b));
        same(state, "about" + of, m -> m.about(a, b), x -> x.about(a, b));
        same(state, "told" + of, m -> m.told(a, b), x -> x.told(a, b));
        same(state, "foresee" + of, m -> m.foresee(a, b), x -> x.foresee(a, b));
        same(state, "advise" + of, m -> m.advise(a, b), x -> x.advise(a, b));
    }

    /** Holds a call's answer, and what is there behind it and a night later, against the model. */
    private static void same(int state, String call, Function<Model, Object> want,
            Function<StakeWeirs, Object> got) {
        Model model = new Model();
        StakeWeirs estuary = new StakeWeirs();
        for (int[] c : madeBy(state)) {
            CHECK.due("a call that makes the state " + state, made(model, c), made(estuary, c));
        }
        String where = call + " in the state " + state;
        CHECK.due(where, answer(want, model), answer(got, estuary));
        CHECK.due("digest() behind " + where, model.digest(), estuary.digest());
        CHECK.due("pass(1) behind " + where, model.pass(1), estuary.pass(1));
        CHECK.due("digest() behind a night behind " + where, model.digest(), estuary.digest());
    }

    /** The calls that make a state: what is called, and its arguments. */
    private static int[][] madeBy(int state) {
        switch (state) {
            case FULL:
                return new int[][] {{WEIR, 0, 1, 50}, {WEIR, 39, 30, 0}, {WEIR, 39, 29, 20},
                    {WEIR, 5, 20, 5}, {WEIR, 4, 11, 3}, {WEIR, 0, 30, 21}, {BARGE, 1},
                    {BARGE, 20}, {BARGE, 10}, {BARGE, 15}, {BARGE, 2}};
            case WORN:
                return new int[][] {{WEIR, 0, 1, 50}, {WEIR, 39, 30, 0}, {WEIR, 7, 29, 20},
                    {PASS, 3}, {GATE, 2}, {PASS, 60}, {GATE, 1}, {WEIR, 12, 30, 9}, {BARGE, 20},
                    {PASS, 3}, {BARGE, 7}, {PASS, 3}};
            case BEFORE_THE_THIRD_RENT:
                return new int[][] {{WEIR, 0, 30, 50}, {WEIR, 0, 29, 50}, {PASS, 41}, {GATE, 0},
                    {SELL, 1}, {WEIR, 0, 30, 21}, {BARGE, 9}};
            default:
                return new int[][] {};
        }
    }

    private static int made(StakeWeirs x, int[] c) {
        switch (c[0]) {
            case WEIR: return x.weir(c[1], c[2], c[3]);
            case BARGE: return x.barge(c[1]);
            case PASS: return x.pass(c[1]);
            case SELL: return x.sell(c[1]);
            default: return x.gate(c[1]) ? 1 : 0;
        }
    }

    private static int made(Model m, int[] c) {
        switch (c[0]) {
            case WEIR: return m.weir(c[1], c[2], c[3]);
            case BARGE: return m.barge(c[1]);
            case PASS: return m.pass(c[1]);
            case SELL: return m.sell(c[1]);
            default: return m.gate(c[1]);
        }
    }

    private static <T> Object answer(Function<T, Object> call, T of) {
        try {
            return call.apply(of);
        } catch (RuntimeException e) {
            return e.getClass().getName();
        }
    }
}
