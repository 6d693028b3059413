/** Estuaries in the states that the tests of the edges ask for. */
final class Estuaries {
    static final int[] EXTREMES = {Integer.MIN_VALUE, Integer.MIN_VALUE + 1, -1000,
        1000, Integer.MAX_VALUE - 1, Integer.MAX_VALUE};

    private Estuaries() {
    }

    static void setTable(StakeWeirs x, int eels) {
        for (int night = 0; night < 7; night++) {
            x.setRun(night, eels);
        }
    }

    static void passTo(StakeWeirs x, int night) {
        int left = night - x.count(0);
        while (left > 0) {
            x.pass(Math.min(left, 60));
            left -= 60;
        }
    }

    /** The weir 0 (place 0, 20 stakes, no rent) with so many coins, 0 to 20, in the night 1. */
    static StakeWeirs withCoins(int coins) {
        StakeWeirs x = new StakeWeirs();
        x.weir(0, 20, 0);
        x.pass(1);
        int spent = 20 - coins;
        if (spent / 2 > 0) {
            x.drive(0, spent / 2);
        }
        if (spent % 2 > 0) {
            x.mend(0, 1);
        }
        return x;
    }

    /** The weir 0 (place 0, no rent) with so many eels, 1 to 99, in a night from 1. */
    static StakeWeirs withEels(int eels, int night) {
        StakeWeirs x = new StakeWeirs();
        setTable(x, 0);
        x.setRun(0, eels);
        x.weir(0, 10, 0);
        x.pass(1);
        x.setRun(0, 0);
        passTo(x, night);
        return x;
    }

    /** The weir 0 (place 0, 30 stakes, without wattle, 20 coins) in the night 46. */
    static StakeWeirs withoutWattle() {
        StakeWeirs x = new StakeWeirs();
        x.weir(0, 30, 0);
        passTo(x, 46);
        return x;
    }

    /** The weir 0 (place 0, 30 stakes, shut) forfeit, in the night 42. */
    static StakeWeirs withForfeit() {
        StakeWeirs x = new StakeWeirs();
        x.weir(0, 30, 50);
        passTo(x, 42);
        return x;
    }
}
