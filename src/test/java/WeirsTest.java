/** Promises 1 to 6: a new object, weir, gate, mend, drive, sell. */
final class WeirsTest {
    private static final Check CHECK = new Check();

    public static void main(String[] args) {
        newEstuaryIsEmpty();
        weirsAreNumberedAndNew();
        weirRefusesWrongArguments();
        weirRefusesASeventh();
        gateOpensAndShuts();
        mendCostsAFifthRoundedUp();
        mendRefuses();
        driveCostsTwoEach();
        driveRefuses();
        sellGoesByTheMoon();
        sellRefuses();
        forfeitWeirIsLeftAlone();
        CHECK.end();
    }

    private static void newEstuaryIsEmpty() {
        StakeWeirs x = new StakeWeirs();
        int[] counts = {0, 0, 90, 0, 0, 0, 0, 0, 0, 0};
        for (int what = 0; what < counts.length; what++) {
            CHECK.due("new: count(" + what + ")", counts[what], x.count(what));
        }
        for (int night = 0; night < 7; night++) {
            CHECK.due("new: setRun(" + night + ", 1)", 30, x.setRun(night, 1));
        }
        CHECK.due("new: richest()", -1, x.richest());
        CHECK.refused("new: about(0, 0)", Check.INDEX, x, () -> x.about(0, 0));
        CHECK.refused("new: told(0, 0)", Check.INDEX, x, () -> x.told(0, 0));
    }

    private static void weirsAreNumberedAndNew() {
        StakeWeirs x = new StakeWeirs();
        CHECK.due("weir(0, 1, 0)", 0, x.weir(0, 1, 0));
        CHECK.due("weir(39, 30, 50)", 1, x.weir(39, 30, 50));
        int[] least = {0, 1, 100, 0, 20, 0, 0, 0};
        int[] greatest = {39, 30, 100, 50, 20, 0, 0, 0};
        for (int what = 0; what < 8; what++) {
            CHECK.due("about(0, " + what + ")", least[what], x.about(0, what));
            CHECK.due("about(1, " + what + ")", greatest[what], x.about(1, what));
        }
    }

    private static void weirRefusesWrongArguments() {
        StakeWeirs x = new StakeWeirs();
        int[][] wrong = {{-1, 5, 5}, {40, 5, 5}, {5, 0, 5}, {5, 31, 5}, {5, 5, -1}, {5, 5, 51},
            {Integer.MIN_VALUE, 5, 5}, {5, Integer.MAX_VALUE, 5}, {5, 5, Integer.MIN_VALUE}};
        for (int[] w : wrong) {
            CHECK.refused("weir(" + w[0] + ", " + w[1] + ", " + w[2] + ")", Check.ARGUMENT, x,
                    () -> x.weir(w[0], w[1], w[2]));
        }
    }

    private static void weirRefusesASeventh() {
        StakeWeirs x = new StakeWeirs();
        for (int i = 0; i < 6; i++) {
            CHECK.due("weir " + i, i, x.weir(7, 7, 7));
        }
        CHECK.refused("seventh weir", Check.STATE, x, () -> x.weir(7, 7, 7));
        CHECK.refused("seventh weir at a wrong place", Check.ARGUMENT, x, () -> x.weir(40, 7, 7));
    }

    private static void gateOpensAndShuts() {
        StakeWeirs x = new StakeWeirs();
        x.weir(3, 3, 3);
        x.weir(4, 4, 4);
        CHECK.due("gate(1)", true, x.gate(1));
        CHECK.due("about(1, 6) open", 1, x.about(1, 6));
        CHECK.due("about(0, 6) of the other", 0, x.about(0, 6));
        CHECK.due("gate(1) again", false, x.gate(1));
        CHECK.due("about(1, 6) shut", 0, x.about(1, 6));
        CHECK.refused("gate(2)", Check.INDEX, x, () -> x.gate(2));
        CHECK.refused("gate(-1)", Check.INDEX, x, () -> x.gate(-1));
    }

    private static void mendCostsAFifthRoundedUp() {
        StakeWeirs x = new StakeWeirs();
        x.weir(3, 3, 0);
        x.pass(13);
        CHECK.due("wattle behind 13 nights", 73, x.about(0, 2));
        CHECK.due("mend(0, 1)", 74, x.mend(0, 1));
        CHECK.due("coins behind mend(0, 1)", 19, x.about(0, 4));
        CHECK.due("mend(0, 5)", 79, x.mend(0, 5));
        CHECK.due("coins behind mend(0, 5)", 18, x.about(0, 4));
        CHECK.due("mend(0, 6)", 85, x.mend(0, 6));
        CHECK.due("coins behind mend(0, 6)", 16, x.about(0, 4));
        CHECK.due("mend(0, 15) to just 100", 100, x.mend(0, 15));
        CHECK.due("coins behind mend(0, 15)", 13, x.about(0, 4));
    }

    private static void mendRefuses() {
        StakeWeirs x = new StakeWeirs();
        x.weir(3, 3, 0);
        x.pass(13);
        CHECK.refused("mend(1, 0)", Check.INDEX, x, () -> x.mend(1, 0));
        CHECK.refused("mend(-1, 5)", Check.INDEX, x, () -> x.mend(-1, 5));
        CHECK.refused("mend(0, 0)", Check.ARGUMENT, x, () -> x.mend(0, 0));
        CHECK.refused("mend(0, 101)", Check.ARGUMENT, x, () -> x.mend(0, 101));
        CHECK.refused("mend(0, 28) to 101", Check.STATE, x, () -> x.mend(0, 28));
        x.drive(0, 9);
        CHECK.refused("mend(0, 11) with 2 coins", Check.STATE, x, () -> x.mend(0, 11));
        CHECK.due("mend(0, 10) with 2 coins", 83, x.mend(0, 10));
        CHECK.due("coins behind mend(0, 10)", 0, x.about(0, 4));
    }

    private static void driveCostsTwoEach() {
        StakeWeirs x = new StakeWeirs();
        x.weir(3, 24, 0);
        CHECK.due("drive(0, 1)", 25, x.drive(0, 1));
        CHECK.due("coins behind drive(0, 1)", 18, x.about(0, 4));
        CHECK.due("drive(0, 5) to just 30", 30, x.drive(0, 5));
        CHECK.due("coins behind drive(0, 5)", 8, x.about(0, 4));
    }

    private static void driveRefuses() {
        StakeWeirs x = new StakeWeirs();
        x.weir(3, 24, 0);
        x.weir(3, 1, 0);
        CHECK.refused("drive(2, 0)", Check.INDEX, x, () -> x.drive(2, 0));
        CHECK.refused("drive(-1, 1)", Check.INDEX, x, () -> x.drive(-1, 1));
        CHECK.refused("drive(0, 0)", Check.ARGUMENT, x, () -> x.drive(0, 0));
        CHECK.refused("drive(0, 31)", Check.ARGUMENT, x, () -> x.drive(0, 31));
        CHECK.refused("drive(0, 7) to 31", Check.STATE, x, () -> x.drive(0, 7));
        CHECK.refused("drive(1, 11) with 20 coins", Check.STATE, x, () -> x.drive(1, 11));
        CHECK.due("drive(1, 10) with 20 coins", 11, x.drive(1, 10));
    }

    private static void sellGoesByTheMoon() {
        StakeWeirs x = new StakeWeirs();
        x.weir(3, 1, 0);
        x.setRun(0, 70);
        x.pass(1);
        CHECK.due("eels of a dark night", 7, x.about(0, 5));
        CHECK.due("sell(0) by a dark moon", 3, x.sell(0));
        CHECK.due("eels behind sell", 0, x.about(0, 5));
        CHECK.due("coins behind sell", 23, x.about(0, 4));
        x.pass(5);
        int eels = x.about(0, 5);
        CHECK.due("eels of five nights (2 + 2 + 2 + 1 + 1)", 8, eels);
        CHECK.due("sell(0) by a half moon", 8, x.sell(0));
        x.setRun(6, 99);
        x.setRun(0, 99);
        x.setRun(1, 50);
        x.pass(4);
        CHECK.due("moon of night 10", 2, x.count(1));
        CHECK.due("eels of four nights (5 + 5 + 2 + 1)", 13, x.about(0, 5));
        CHECK.due("sell(0) by a full moon", 19, x.sell(0));
        CHECK.due("coins behind all", 50, x.about(0, 4));
    }

    private static void sellRefuses() {
        StakeWeirs x = new StakeWeirs();
        x.weir(3, 1, 0);
        CHECK.refused("sell(0) without eels", Check.STATE, x, () -> x.sell(0));
        CHECK.refused("sell(1)", Check.INDEX, x, () -> x.sell(1));
        CHECK.refused("sell(-1)", Check.INDEX, x, () -> x.sell(-1));
        x.setRun(0, 10);
        x.pass(1);
        CHECK.due("one eel", 1, x.about(0, 5));
        CHECK.due("sell(0) of one eel by a dark moon", 0, x.sell(0));
        CHECK.due("eels behind it", 0, x.about(0, 5));
    }

    private static void forfeitWeirIsLeftAlone() {
        StakeWeirs x = new StakeWeirs();
        x.weir(3, 3, 50);
        x.setRun(0, 0);
        x.pass(42);
        CHECK.due("rents that it owes", 3, x.about(0, 7));
        CHECK.refused("gate of a forfeit weir", Check.STATE, x, () -> x.gate(0));
        CHECK.refused("mend of a forfeit weir", Check.STATE, x, () -> x.mend(0, 5));
        CHECK.refused("mend(0, 0) of a forfeit weir", Check.ARGUMENT, x, () -> x.mend(0, 0));
        CHECK.refused("drive of a forfeit weir", Check.STATE, x, () -> x.drive(0, 5));
        CHECK.refused("drive(0, 31) of a forfeit weir", Check.ARGUMENT, x, () -> x.drive(0, 31));
        CHECK.refused("sell of a forfeit weir", Check.STATE, x, () -> x.sell(0));
    }
}
