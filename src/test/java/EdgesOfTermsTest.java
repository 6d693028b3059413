/** The edges that 'What it is' and 'Terms' name, ahead of how a night goes. */
final class EdgesOfTermsTest {
    private static final Check CHECK = new Check();

    public static void main(String[] args) {
        nightsGoOnForAllCalls();
        bargesComeForAllCalls();
        moonChangesJustAtItsEdges();
        moonGoesRoundForEver();
        tableGoesRoundEverySevenNights();
        runIsFromNoneToThreeTimesTheMost();
        tableIsThirtyAtFirst();
        placesAreFromTheSeaToTheLast();
        sixWeirsAreNumberedByTheirMaking();
        aNewWeirIsWholeAndShut();
        eelsOfAWeirAreAtMostTwoHundred();
        forfeitIsForGood();
        owingTwoIsHeld();
        aNewBargeStandsBeforeTheSea();
        theFirstArrivedLessensAllNumbers();
        oneArrivedInTheMiddleLessensThoseBehindIt();
        theLastArrivedLessensNone();
        severalArrivedLessenByAsMany();
        inTheWayAreMoreStakesThanThirtyLessTheWidth();
        openWeirsAreInNoWay();
        forfeitWeirsAreInNoWay();
        CHECK.end();
    }

    /** "An object is used for at most 512 calls": of the most nights */
    private static void nightsGoOnForAllCalls() {
        StakeWeirs x = new StakeWeirs();
        x.weir(7, 7, 0);
        for (int call = 2; call < 512; call++) {
            x.pass(60);
        }
        CHECK.due("night in the last call", 510 * 60, x.count(0));
    }

    /** "An object is used for at most 512 calls": of the most barges */
    private static void bargesComeForAllCalls() {
        StakeWeirs x = new StakeWeirs();
        for (int turn = 0; turn < 85; turn++) {
            for (int barge = 0; barge < 5; barge++) {
                CHECK.due("barge(1) in the turn " + turn, barge, x.barge(1));
            }
            CHECK.due("pass(8) in the turn " + turn, 5, x.pass(8));
        }
        CHECK.due("arrived in all", 425, x.count(6));
    }

    /**
     * "dark (0), if d is 0 to 3 or 25 to 27; half (1), if d is 4 to 9 or 19 to 24; full (2), if d
     * is 10 to 18."
     */
    private static void moonChangesJustAtItsEdges() {
        int[][] edges = {{0, 0}, {3, 0}, {4, 1}, {9, 1}, {10, 2}, {18, 2}, {19, 1}, {24, 1},
            {25, 0}, {27, 0}};
        for (int[] edge : edges) {
            StakeWeirs x = new StakeWeirs();
            Estuaries.passTo(x, edge[0]);
            CHECK.due("moon of the night " + edge[0], edge[1], x.count(1));
        }
    }

    /** "Moon, by the remainder d of the night by 28" */
    private static void moonGoesRoundForEver() {
        int[][] edges = {{28, 0}, {31, 0}, {32, 1}, {37, 1}, {38, 2}, {46, 2}, {47, 1}, {52, 1},
            {53, 0}, {55, 0}, {56, 0}, {60, 1}, {28 * 700 + 3, 0}, {28 * 700 + 4, 1},
            {28 * 700 + 10, 2}, {28 * 700 + 19, 1}, {28 * 700 + 25, 0}, {28 * 701, 0}};
        StakeWeirs x = new StakeWeirs();
        for (int[] edge : edges) {
            Estuaries.passTo(x, edge[0]);
            CHECK.due("night", edge[0], x.count(0));
            CHECK.due("moon of the night " + edge[0], edge[1], x.count(1));
        }
    }

    /** "A table tells for each of 7 nights (the night by the remainder of 7) the eels" */
    private static void tableGoesRoundEverySevenNights() {
        StakeWeirs x = new StakeWeirs();
        for (int night = 0; night < 7; night++) {
            x.setRun(night, night + 1);
        }
        int[][] runs = {{0, 3}, {6, 14}, {7, 2}, {13, 7}, {14, 1}, {27, 21}, {28, 3}, {34, 14},
            {35, 2}, {7 * 2000 + 6, 14}, {7 * 2001, 2}};
        for (int[] run : runs) {
            Estuaries.passTo(x, run[0]);
            CHECK.due("run of the night " + run[0], run[1], x.count(2));
        }
    }

    /**
     * "the eels, 0 to 99 (..); three times as many run by a dark moon, twice as many by a half
     * one, just as many by a full one."
     */
    private static void runIsFromNoneToThreeTimesTheMost() {
        int[][] runs = {{0, 297}, {4, 198}, {10, 99}, {19, 198}, {25, 297}};
        for (int[] run : runs) {
            StakeWeirs x = new StakeWeirs();
            Estuaries.passTo(x, run[0]);
            x.setRun(run[0] % 7, 99);
            CHECK.due("run of 99 in the night " + run[0], run[1], x.count(2));
            x.setRun(run[0] % 7, 1);
            CHECK.due("run of 1 in the night " + run[0], run[1] / 99, x.count(2));
            x.setRun(run[0] % 7, 0);
            CHECK.due("run of 0 in the night " + run[0], 0, x.count(2));
        }
    }

    /** "the eels, 0 to 99 (30, at first)" */
    private static void tableIsThirtyAtFirst() {
        for (int night = 0; night < 7; night++) {
            StakeWeirs x = new StakeWeirs();
            CHECK.due("setRun(" + night + ", 99) at first", 30, x.setRun(night, 99));
        }
    }

    /** "The estuary has places, 0 (at the sea) to 39" */
    private static void placesAreFromTheSeaToTheLast() {
        for (int place = 0; place <= 39; place++) {
            StakeWeirs x = new StakeWeirs();
            CHECK.due("weir(" + place + ", 30, 0)", 0, x.weir(place, 30, 0));
            x.barge(1);
            CHECK.due("arrives(0) by a weir at " + place, nightsBy(place), x.arrives(0));
        }
    }

    /** The nights to the place 39 for one that is held up at this place, counted plainly. */
    private static int nightsBy(int place) {
        int nights = 0;
        for (int at = -1; at < 39; nights++) {
            int next = Math.min(39, at + 5);
            at = at < place && place <= next ? place : next;
        }
        return nights;
    }

    /** "There are at most 6, numbered from 0 in the order of their making" */
    private static void sixWeirsAreNumberedByTheirMaking() {
        StakeWeirs x = new StakeWeirs();
        int[] places = {20, 39, 0, 20, 38, 1};
        for (int i = 0; i < places.length; i++) {
            CHECK.due("weir(" + places[i] + ", 5, 5)", i, x.weir(places[i], 5, 5));
            CHECK.due("weirs", i + 1, x.count(3));
        }
        for (int i = 0; i < places.length; i++) {
            CHECK.due("place of " + i, places[i], x.about(i, 0));
        }
        CHECK.refused("seventh weir", Check.STATE, x, () -> x.weir(20, 5, 5));
    }

    /**
     * "wattle, 0 to 100 (100, at first), a rent, 0 to 50, coins (20, at first), eels, 0 (at
     * first) to 200, owes 0 (at first) to 3 rents, and its gate is shut (at first) or open."
     */
    private static void aNewWeirIsWholeAndShut() {
        StakeWeirs x = new StakeWeirs();
        x.weir(39, 30, 50);
        Estuaries.passTo(x, 42);
        x.weir(39, 30, 50);
        int[] want = {39, 30, 100, 50, 20, 0, 0, 0};
        for (int what = 0; what < want.length; what++) {
            CHECK.due("about(1, " + what + ") of a new weir", want[what], x.about(1, what));
        }
        CHECK.due("it catches, as it is shut", x.count(2), x.catches(1));
    }

    /** "eels, 0 (at first) to 200" */
    private static void eelsOfAWeirAreAtMostTwoHundred() {
        StakeWeirs x = new StakeWeirs();
        x.weir(0, 30, 0);
        Estuaries.setTable(x, 99);
        for (int night = 1; night <= 40; night++) {
            x.pass(1);
            CHECK.due("eels behind " + night + " nights", 200, x.about(0, 5));
        }
    }

    /** "One that owes 3 is forfeit for good" */
    private static void forfeitIsForGood() {
        StakeWeirs x = Estuaries.withForfeit();
        for (int i = 0; i < 10; i++) {
            CHECK.due("weirs that are held in the night " + x.count(0), 0, x.count(4));
            CHECK.due("rents that it owes", 3, x.about(0, 7));
            CHECK.refused("gate(0)", Check.STATE, x, () -> x.gate(0));
            CHECK.refused("mend(0, 1)", Check.STATE, x, () -> x.mend(0, 1));
            CHECK.refused("drive(0, 1)", Check.STATE, x, () -> x.drive(0, 1));
            CHECK.refused("sell(0)", Check.STATE, x, () -> x.sell(0));
            x.pass(14);
        }
    }

    /** "One that owes 3 is forfeit for good; all others are held." */
    private static void owingTwoIsHeld() {
        StakeWeirs x = new StakeWeirs();
        x.weir(0, 30, 50);
        Estuaries.passTo(x, 41);
        CHECK.due("rents that it owes", 2, x.about(0, 7));
        CHECK.due("weirs that are held", 1, x.count(4));
        CHECK.due("richest()", 0, x.richest());
        CHECK.due("hinders(1)", 1, x.hinders(1));
        CHECK.due("gate(0)", true, x.gate(0));
        CHECK.due("mend(0, 5)", x.about(0, 2) + 5, x.mend(0, 5));
        CHECK.due("sell(0) of 200 by a full moon", 300, x.sell(0));
        x.pass(1);
        CHECK.due("rents that it owes, when it has paid", 0, x.about(0, 7));
    }

    /** "it comes in at -1." */
    private static void aNewBargeStandsBeforeTheSea() {
        StakeWeirs x = new StakeWeirs();
        x.weir(0, 30, 0);
        x.barge(1);
        CHECK.due("place", -1, x.told(0, 1));
        CHECK.due("the weir at 0 is beyond it", 0, x.told(0, 3));
        x.pass(1);
        CHECK.due("place of the first weir", 0, x.told(0, 1));
        x.barge(20);
        CHECK.due("place of a later one", -1, x.told(1, 1));
    }

    /** "Where one has arrived, those behind it have numbers that are 1 less." */
    private static void theFirstArrivedLessensAllNumbers() {
        StakeWeirs x = new StakeWeirs();
        x.barge(11);
        x.pass(1);
        x.weir(4, 19, 0);
        for (int wide = 12; wide <= 15; wide++) {
            x.barge(wide);
        }
        CHECK.due("pass(7)", 1, x.pass(7));
        dueWidths("the first has arrived", x, 12, 13, 14, 15);
        for (int barge = 0; barge < 4; barge++) {
            CHECK.due("place of " + barge, 34, x.told(barge, 1));
            CHECK.due("broken by " + barge, 1, x.told(barge, 2));
        }
        CHECK.due("barge(16)", 4, x.barge(16));
        CHECK.due("broken by the new one", 0, x.told(4, 2));
        dueWidths("a new one behind them", x, 12, 13, 14, 15, 16);
    }

    /** "Where one has arrived, those behind it have numbers that are 1 less." */
    private static void oneArrivedInTheMiddleLessensThoseBehindIt() {
        StakeWeirs x = new StakeWeirs();
        x.weir(0, 12, 0);
        x.barge(20);
        x.barge(1);
        x.pass(1);
        x.weir(9, 24, 0);
        x.weir(9, 25, 0);
        x.barge(7);
        CHECK.due("pass(7)", 1, x.pass(7));
        dueWidths("the middle one has arrived", x, 20, 7);
        CHECK.due("place of the one before it", 34, x.told(0, 1));
        CHECK.due("place of the one behind it", 34, x.told(1, 1));
        CHECK.due("broken by the one before it", 3, x.told(0, 2));
        CHECK.due("broken by the one behind it", 0, x.told(1, 2));
    }

    /** "Where one has arrived, those behind it have numbers that are 1 less." */
    private static void theLastArrivedLessensNone() {
        StakeWeirs x = new StakeWeirs();
        x.weir(0, 12, 0);
        x.weir(1, 11, 0);
        x.barge(20);
        x.barge(19);
        x.barge(1);
        CHECK.due("pass(8)", 2, x.pass(8));
        dueWidths("the first is slower than those behind it", x, 20);
        StakeWeirs y = new StakeWeirs();
        y.weir(0, 12, 0);
        y.weir(3, 12, 0);
        y.barge(19);
        y.barge(20);
        y.barge(1);
        CHECK.due("pass(8) with two that are held up", 1, y.pass(8));
        dueWidths("the last has arrived", y, 19, 20);
    }

    /** "Where one has arrived, those behind it have numbers that are 1 less." */
    private static void severalArrivedLessenByAsMany() {
        StakeWeirs x = new StakeWeirs();
        x.barge(1);
        x.barge(2);
        x.barge(3);
        x.pass(1);
        x.barge(4);
        x.barge(5);
        CHECK.due("pass(7)", 3, x.pass(7));
        dueWidths("three have arrived", x, 4, 5);
        CHECK.due("pass(1)", 2, x.pass(1));
        dueWidths("all have arrived", x);
        CHECK.due("arrived in all", 5, x.count(6));
        CHECK.due("barge(6)", 0, x.barge(6));
    }

    private static void dueWidths(String when, StakeWeirs x, int... widths) {
        CHECK.due("under way, when " + when, widths.length, x.count(5));
        for (int i = 0; i < widths.length; i++) {
            CHECK.due("width of " + i + ", when " + when, widths[i], x.told(i, 0));
        }
        CHECK.refused("told(" + widths.length + ", 0), when " + when, Check.INDEX, x,
                () -> x.told(widths.length, 0));
    }

    /** "A weir is in the way of a barge, if (..) its stakes are more than 30 less the width." */
    private static void inTheWayAreMoreStakesThanThirtyLessTheWidth() {
        for (int wide = 1; wide <= 20; wide++) {
            StakeWeirs x = new StakeWeirs();
            x.weir(3, 30 - wide, 0);
            x.barge(wide);
            String call = " of " + wide + " with stakes of 30 less the width";
            CHECK.due("hinders" + call, 0, x.hinders(wide));
            CHECK.due("next in its way" + call, -1, x.told(0, 3));
            x.weir(3, 31 - wide, 0);
            CHECK.due("hinders" + call + " and one more", 1, x.hinders(wide));
            CHECK.due("next in its way" + call + " and one more", 1, x.told(0, 3));
            x.pass(1);
            CHECK.due("broken" + call + " and one more", 1, x.told(0, 2));
            CHECK.due("coins of the one not in the way" + call, 20, x.about(0, 4));
            CHECK.due("coins of the one in the way" + call, 17, x.about(1, 4));
            CHECK.due("stakes of the one in the way" + call, 30 - wide, x.about(1, 1));
        }
    }

    /** "A weir is in the way of a barge, if (..) its gate is shut" */
    private static void openWeirsAreInNoWay() {
        StakeWeirs x = new StakeWeirs();
        x.weir(3, 30, 0);
        x.barge(20);
        x.gate(0);
        CHECK.due("hinders(20)", 0, x.hinders(20));
        CHECK.due("next in its way", -1, x.told(0, 3));
        x.pass(1);
        CHECK.due("place of the barge", 4, x.told(0, 1));
        CHECK.due("stakes", 30, x.about(0, 1));
        CHECK.due("wattle", 97, x.about(0, 2));
        CHECK.due("coins", 20, x.about(0, 4));
        x.gate(0);
        CHECK.due("hinders(20) when it is shut again", 1, x.hinders(20));
    }

    /** "A weir is in the way of a barge, if it is held" */
    private static void forfeitWeirsAreInNoWay() {
        StakeWeirs x = Estuaries.withForfeit();
        x.barge(20);
        CHECK.due("hinders(20)", 0, x.hinders(20));
        CHECK.due("next in its way", -1, x.told(0, 3));
        CHECK.due("arrives(0)", 8, x.arrives(0));
        x.pass(1);
        CHECK.due("place of the barge", 4, x.told(0, 1));
        CHECK.due("broken", 0, x.told(0, 2));
        CHECK.due("stakes", 30, x.about(0, 1));
        CHECK.due("fines", 0, x.count(7));
    }
}
