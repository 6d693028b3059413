/** Promises 9 to 13: about, told, count, hinders, richest. */
final class WhatThereIsTest {
    private static final Check CHECK = new Check();

    public static void main(String[] args) {
        aboutTellsOfAWeir();
        aboutRefuses();
        toldTellsOfABarge();
        toldLooksBeyondItsOwnPlace();
        toldRefuses();
        countTellsTheMoons();
        countTellsOfAll();
        countRefuses();
        hindersCountsWeirsInTheWay();
        hindersRefuses();
        richestIsHeldAndFirst();
        CHECK.end();
    }

    private static void aboutTellsOfAWeir() {
        StakeWeirs x = new StakeWeirs();
        x.weir(11, 12, 21);
        x.pass(14);
        x.gate(0);
        int[] want = {11, 12, 70, 21, 20, 200, 1, 1};
        for (int what = 0; what < want.length; what++) {
            CHECK.due("about(0, " + what + ")", want[what], x.about(0, what));
        }
    }

    private static void aboutRefuses() {
        StakeWeirs x = new StakeWeirs();
        x.weir(11, 12, 21);
        CHECK.refused("about(0, -1)", Check.INDEX, x, () -> x.about(0, -1));
        CHECK.refused("about(0, 8)", Check.INDEX, x, () -> x.about(0, 8));
        CHECK.refused("about(1, 0)", Check.INDEX, x, () -> x.about(1, 0));
        CHECK.refused("about(-1, 0)", Check.INDEX, x, () -> x.about(-1, 0));
    }

    private static void toldTellsOfABarge() {
        StakeWeirs x = new StakeWeirs();
        x.weir(2, 25, 0);
        x.weir(30, 22, 0);
        x.weir(2, 26, 0);
        x.weir(30, 23, 0);
        x.barge(8);
        CHECK.due("next in its way", 0, x.told(0, 3));
        x.pass(1);
        int[] want = {8, 2, 2, 3};
        for (int what = 0; what < want.length; what++) {
            CHECK.due("told(0, " + what + ")", want[what], x.told(0, what));
        }
        x.gate(3);
        CHECK.due("next in its way, when it is open", -1, x.told(0, 3));
        x.weir(39, 23, 0);
        CHECK.due("next in its way at the last place", 4, x.told(0, 3));
    }

    private static void toldLooksBeyondItsOwnPlace() {
        StakeWeirs x = new StakeWeirs();
        x.weir(20, 30, 0);
        x.weir(4, 30, 0);
        x.barge(5);
        x.gate(1);
        x.pass(1);
        x.gate(1);
        CHECK.due("its place", 4, x.told(0, 1));
        CHECK.due("next in its way", 0, x.told(0, 3));
        x.barge(5);
        x.weir(0, 26, 0);
        CHECK.due("next in the way of a new one", 2, x.told(1, 3));
        x.weir(0, 30, 0);
        CHECK.due("the smallest number there", 2, x.told(1, 3));
        x.pass(1);
        CHECK.due("place 0 is the first that it comes to", 0, x.told(1, 1));
        CHECK.due("the nearest of two", 1, x.told(1, 3));
    }

    private static void toldRefuses() {
        StakeWeirs x = new StakeWeirs();
        x.barge(5);
        CHECK.refused("told(0, -1)", Check.INDEX, x, () -> x.told(0, -1));
        CHECK.refused("told(0, 4)", Check.INDEX, x, () -> x.told(0, 4));
        CHECK.refused("told(1, 0)", Check.INDEX, x, () -> x.told(1, 0));
        CHECK.refused("told(-1, 0)", Check.INDEX, x, () -> x.told(-1, 0));
    }

    private static void countTellsTheMoons() {
        StakeWeirs x = new StakeWeirs();
        String moons = "0000111111222222222111111000";
        int[] run = {90, 60, 30};
        for (int night = 0; night < 60; night++) {
            int moon = moons.charAt(night % 28) - '0';
            CHECK.due("night", night, x.count(0));
            CHECK.due("moon of the night " + night, moon, x.count(1));
            CHECK.due("run of the night " + night, run[moon], x.count(2));
            x.pass(1);
        }
    }

    private static void countTellsOfAll() {
        StakeWeirs x = new StakeWeirs();
        x.weir(39, 1, 9);
        x.weir(30, 10, 50);
        x.weir(20, 30, 11);
        x.barge(1);
        x.barge(20);
        x.pass(9);
        x.barge(3);
        int eels = x.about(0, 5) + x.about(1, 5) + x.about(2, 5);
        int[] early = {9, 1, 60, 3, 3, 1, 2, 6, 0, eels};
        for (int what = 0; what < early.length; what++) {
            CHECK.due("count(" + what + ") early", early[what], x.count(what));
        }
        x.pass(33);
        CHECK.due("weirs that are held", 2, x.count(4));
        CHECK.due("rents", 9 * 2 + 11, x.count(8));
        CHECK.due("eels of the forfeit weir", 0, x.about(1, 5));
        CHECK.due("eels", x.about(0, 5) + x.about(2, 5), x.count(9));
    }

    private static void countRefuses() {
        StakeWeirs x = new StakeWeirs();
        CHECK.refused("count(-1)", Check.INDEX, x, () -> x.count(-1));
        CHECK.refused("count(10)", Check.INDEX, x, () -> x.count(10));
    }

    private static void hindersCountsWeirsInTheWay() {
        StakeWeirs x = new StakeWeirs();
        x.weir(9, 30, 0);
        x.weir(1, 10, 0);
        x.weir(1, 11, 0);
        x.weir(5, 29, 50);
        CHECK.due("hinders(1)", 1, x.hinders(1));
        CHECK.due("hinders(2)", 2, x.hinders(2));
        CHECK.due("hinders(19)", 2, x.hinders(19));
        CHECK.due("hinders(20)", 3, x.hinders(20));
        x.gate(0);
        CHECK.due("hinders(20) with one open", 2, x.hinders(20));
        x.pass(42);
        CHECK.due("hinders(20) with one forfeit", 1, x.hinders(20));
    }

    private static void hindersRefuses() {
        StakeWeirs x = new StakeWeirs();
        CHECK.refused("hinders(0)", Check.ARGUMENT, x, () -> x.hinders(0));
        CHECK.refused("hinders(21)", Check.ARGUMENT, x, () -> x.hinders(21));
    }

    private static void richestIsHeldAndFirst() {
        StakeWeirs x = new StakeWeirs();
        CHECK.due("richest() without any", -1, x.richest());
        x.weir(1, 10, 20);
        x.weir(1, 10, 50);
        x.weir(1, 10, 19);
        CHECK.due("richest() of three", 0, x.richest());
        x.drive(0, 1);
        CHECK.due("richest() of two", 1, x.richest());
        x.pass(42);
        CHECK.due("coins of one that is forfeit", 20, x.about(1, 4));
        CHECK.due("coins of the only one that is held", 1, x.about(2, 4));
        CHECK.due("richest() of those that are held", 2, x.richest());
        x.drive(x.weir(1, 10, 50), 10);
        x.pass(13);
        CHECK.due("richest() is the held one with coins still", 2, x.richest());
        StakeWeirs poor = new StakeWeirs();
        poor.weir(1, 10, 50);
        poor.drive(0, 10);
        CHECK.due("richest() without coins", 0, poor.richest());
        poor.pass(42);
        CHECK.due("richest() without any that is held", -1, poor.richest());
    }
}
