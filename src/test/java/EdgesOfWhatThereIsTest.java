/** The edges that promises 9 to 13 name: about, told, count, hinders, richest. */
final class EdgesOfWhatThereIsTest {
    private static final Check CHECK = new Check();

    public static void main(String[] args) {
        aboutRefusesNoSuchWeir();
        aboutRefusesWhat();
        aboutTellsOfForfeitWeirs();
        toldRefusesNoSuchBarge();
        toldRefusesWhat();
        toldCountsEachWeirOfAPlace();
        toldIsOfTheFirstPlaceBeyondItsOwn();
        toldIsOfTheSmallestNumberThere();
        toldIsNoneWithoutOne();
        toldIsAsAllAreNow();
        countRefusesWhat();
        countOfANewEstuary();
        countTakesInForfeitWeirs();
        countOfBargesGoesOn();
        countOfFinesIsOfWhatWasPaid();
        countOfRentsIsOfWhatWasPaid();
        countOfEelsIsOfAllWeirs();
        hindersRefusesWidths();
        hindersOfItsLeastAndItsMost();
        hindersWithoutAny();
        hindersIsOfAllPlaces();
        richestIsTheSmallestNumberOfSeveral();
        richestIsHeld();
        richestWithoutAny();
        CHECK.end();
    }

    /** "Throws IndexOutOfBoundsException if there is no such weir", of about */
    private static void aboutRefusesNoSuchWeir() {
        StakeWeirs none = new StakeWeirs();
        CHECK.refused("about(0, 0) without weirs", Check.INDEX, none, () -> none.about(0, 0));
        StakeWeirs x = new StakeWeirs();
        x.weir(7, 7, 7);
        x.weir(8, 8, 8);
        CHECK.refused("about(-1, 0)", Check.INDEX, x, () -> x.about(-1, 0));
        CHECK.refused("about(2, 0)", Check.INDEX, x, () -> x.about(2, 0));
        CHECK.refused("about(6, 7)", Check.INDEX, x, () -> x.about(6, 7));
        for (int weir : Estuaries.EXTREMES) {
            CHECK.refused("about(" + weir + ", 0)", Check.INDEX, x, () -> x.about(weir, 0));
        }
        CHECK.due("about(1, 0)", 8, x.about(1, 0));
    }

    /** "Throws IndexOutOfBoundsException if (..) what is not 0 to 7" */
    private static void aboutRefusesWhat() {
        StakeWeirs x = new StakeWeirs();
        x.weir(7, 7, 7);
        CHECK.refused("about(0, -1)", Check.INDEX, x, () -> x.about(0, -1));
        CHECK.refused("about(0, 8)", Check.INDEX, x, () -> x.about(0, 8));
        CHECK.refused("about(-1, -1)", Check.INDEX, x, () -> x.about(-1, -1));
        CHECK.refused("about(1, 8)", Check.INDEX, x, () -> x.about(1, 8));
        for (int what : Estuaries.EXTREMES) {
            CHECK.refused("about(0, " + what + ")", Check.INDEX, x, () -> x.about(0, what));
        }
        CHECK.due("about(0, 0)", 7, x.about(0, 0));
        CHECK.due("about(0, 7)", 0, x.about(0, 7));
    }

    /** "`weir`: a weir": forfeit ones are weirs, too. */
    private static void aboutTellsOfForfeitWeirs() {
        StakeWeirs x = Estuaries.withForfeit();
        int[] want = {0, 30, 10, 50, 20, 0, 0, 3};
        for (int what = 0; what < want.length; what++) {
            CHECK.due("about(0, " + what + ")", want[what], x.about(0, what));
        }
    }

    /** "Throws IndexOutOfBoundsException if there is no such barge", of told */
    private static void toldRefusesNoSuchBarge() {
        StakeWeirs none = new StakeWeirs();
        CHECK.refused("told(0, 0) without barges", Check.INDEX, none, () -> none.told(0, 0));
        StakeWeirs x = new StakeWeirs();
        x.barge(7);
        x.barge(8);
        CHECK.refused("told(-1, 0)", Check.INDEX, x, () -> x.told(-1, 0));
        CHECK.refused("told(2, 0)", Check.INDEX, x, () -> x.told(2, 0));
        CHECK.refused("told(5, 3)", Check.INDEX, x, () -> x.told(5, 3));
        for (int barge : Estuaries.EXTREMES) {
            CHECK.refused("told(" + barge + ", 0)", Check.INDEX, x, () -> x.told(barge, 0));
        }
        CHECK.due("told(1, 0)", 8, x.told(1, 0));
        x.pass(8);
        CHECK.refused("told(0, 0) when all have arrived", Check.INDEX, x, () -> x.told(0, 0));
    }

    /** "Throws IndexOutOfBoundsException if (..) what is not 0 to 3" */
    private static void toldRefusesWhat() {
        StakeWeirs x = new StakeWeirs();
        x.barge(7);
        CHECK.refused("told(0, -1)", Check.INDEX, x, () -> x.told(0, -1));
        CHECK.refused("told(0, 4)", Check.INDEX, x, () -> x.told(0, 4));
        CHECK.refused("told(-1, -1)", Check.INDEX, x, () -> x.told(-1, -1));
        CHECK.refused("told(1, 4)", Check.INDEX, x, () -> x.told(1, 4));
        for (int what : Estuaries.EXTREMES) {
            CHECK.refused("told(0, " + what + ")", Check.INDEX, x, () -> x.told(0, what));
        }
        CHECK.due("told(0, 0)", 7, x.told(0, 0));
        CHECK.due("told(0, 3)", -1, x.told(0, 3));
    }

    /** "2 how many weirs it has broken through (each one of a place counts)" */
    private static void toldCountsEachWeirOfAPlace() {
        StakeWeirs x = new StakeWeirs();
        for (int i = 0; i < 6; i++) {
            x.weir(i < 4 ? 3 : 6, 30, 0);
        }
        x.barge(20);
        x.barge(20);
        CHECK.due("at first", 0, x.told(0, 2));
        x.pass(1);
        CHECK.due("behind the first place", 4, x.told(0, 2));
        CHECK.due("of the one behind it", 0, x.told(1, 2));
        x.pass(1);
        CHECK.due("behind the second place", 6, x.told(0, 2));
        CHECK.due("of the one behind it, that was ahead", 0, x.told(1, 2));
    }

    /** "the next one in its way (..) (the first place beyond its own one" */
    private static void toldIsOfTheFirstPlaceBeyondItsOwn() {
        StakeWeirs x = new StakeWeirs();
        x.barge(10);
        x.weir(39, 30, 0);
        CHECK.due("only at the last place", 0, x.told(0, 3));
        x.weir(20, 30, 0);
        CHECK.due("nearer", 1, x.told(0, 3));
        x.weir(5, 20, 0);
        CHECK.due("nearer, but not in its way", 1, x.told(0, 3));
        x.weir(4, 30, 0);
        CHECK.due("at the fifth place", 3, x.told(0, 3));
        x.pass(1);
        CHECK.due("at its own place, broken through", 1, x.told(0, 3));
        x.weir(4, 30, 0);
        CHECK.due("at its own place, made behind it", 1, x.told(0, 3));
        x.weir(5, 21, 0);
        CHECK.due("just beyond its own place", 5, x.told(0, 3));
    }

    /** "there the smallest number" */
    private static void toldIsOfTheSmallestNumberThere() {
        StakeWeirs x = new StakeWeirs();
        x.weir(9, 30, 0);
        x.weir(8, 20, 0);
        x.weir(8, 30, 0);
        x.weir(8, 25, 0);
        x.weir(9, 30, 0);
        x.barge(10);
        CHECK.due("of those that are in its way", 2, x.told(0, 3));
        x.gate(2);
        CHECK.due("of those that are shut", 3, x.told(0, 3));
        x.gate(3);
        CHECK.due("of the next place", 0, x.told(0, 3));
        x.gate(2);
        CHECK.due("when it is shut again", 2, x.told(0, 3));
    }

    /** "-1 for none" */
    private static void toldIsNoneWithoutOne() {
        StakeWeirs x = new StakeWeirs();
        x.barge(1);
        CHECK.due("without weirs", -1, x.told(0, 3));
        x.weir(0, 29, 0);
        CHECK.due("with one that is not in its way", -1, x.told(0, 3));
        x.weir(0, 30, 0);
        CHECK.due("with one that is", 1, x.told(0, 3));
        x.gate(1);
        CHECK.due("with one that is open", -1, x.told(0, 3));
        StakeWeirs y = new StakeWeirs();
        y.weir(1, 30, 0);
        y.barge(1);
        y.pass(1);
        CHECK.due("behind the last one", -1, y.told(0, 3));
    }

    /** "as all are now" */
    private static void toldIsAsAllAreNow() {
        StakeWeirs x = new StakeWeirs();
        x.weir(7, 30, 0);
        x.barge(20);
        x.barge(5);
        CHECK.due("the earlier barge will break it, but not yet", 0, x.told(1, 3));
        x.pass(2);
        CHECK.due("it is broken", -1, x.told(1, 3));
    }

    /** "Throws IndexOutOfBoundsException if what is not 0 to 9" */
    private static void countRefusesWhat() {
        StakeWeirs x = new StakeWeirs();
        CHECK.refused("count(-1)", Check.INDEX, x, () -> x.count(-1));
        CHECK.refused("count(10)", Check.INDEX, x, () -> x.count(10));
        for (int what : Estuaries.EXTREMES) {
            CHECK.refused("count(" + what + ")", Check.INDEX, x, () -> x.count(what));
        }
    }

    /** "0 the night (..) 9 eels of all weirs": all of them, where there is nothing */
    private static void countOfANewEstuary() {
        StakeWeirs x = new StakeWeirs();
        int[] want = {0, 0, 90, 0, 0, 0, 0, 0, 0, 0};
        for (int what = 0; what < want.length; what++) {
            CHECK.due("count(" + what + ")", want[what], x.count(what));
        }
    }

    /** "3 weirs, 4 weirs that are held" */
    private static void countTakesInForfeitWeirs() {
        StakeWeirs x = Estuaries.withForfeit();
        CHECK.due("weirs", 1, x.count(3));
        CHECK.due("weirs that are held", 0, x.count(4));
        x.weir(7, 7, 7);
        x.gate(1);
        CHECK.due("weirs, with an open one", 2, x.count(3));
        CHECK.due("weirs that are held, with an open one", 1, x.count(4));
    }

    /** "5 barges under way, 6 barges that have arrived in all" */
    private static void countOfBargesGoesOn() {
        StakeWeirs x = new StakeWeirs();
        for (int turn = 0; turn < 12; turn++) {
            for (int i = 0; i < 5; i++) {
                CHECK.due("under way", i, x.count(5));
                x.barge(1);
            }
            CHECK.due("arrived in all, before", 5 * turn, x.count(6));
            x.pass(8);
            CHECK.due("under way, behind", 0, x.count(5));
            CHECK.due("arrived in all, behind", 5 * turn + 5, x.count(6));
        }
    }

    /** "7 the coins of all fines that were paid, added" */
    private static void countOfFinesIsOfWhatWasPaid() {
        StakeWeirs x = Estuaries.withCoins(4);
        int[] fines = {3, 4, 4};
        for (int i = 0; i < fines.length; i++) {
            x.barge(10 + i);
            x.pass(1);
            CHECK.due("fines behind " + (i + 1), fines[i], x.count(7));
        }
        x.weir(0, 30, 0);
        x.barge(20);
        x.pass(1);
        CHECK.due("fines of two weirs, of which one has nothing", 7, x.count(7));
    }

    /** "8 the coins of all rents that were paid, added" */
    private static void countOfRentsIsOfWhatWasPaid() {
        StakeWeirs x = new StakeWeirs();
        x.weir(7, 1, 20);
        x.weir(7, 1, 21);
        x.weir(7, 1, 9);
        x.weir(7, 1, 0);
        int[] rents = {0, 29, 38, 38, 38};
        for (int i = 0; i < rents.length; i++) {
            CHECK.due("rents behind " + i, rents[i], x.count(8));
            x.pass(14);
        }
    }

    /** "9 eels of all weirs" */
    private static void countOfEelsIsOfAllWeirs() {
        StakeWeirs x = new StakeWeirs();
        Estuaries.setTable(x, 99);
        for (int i = 0; i < 6; i++) {
            x.weir(7, 30, 0);
        }
        x.pass(9);
        CHECK.due("eels of six that are full", 1200, x.count(9));
        x.gate(0);
        CHECK.due("eels with an open one", 1200, x.count(9));
        x.sell(0);
        CHECK.due("eels when one has sold", 1000, x.count(9));
    }

    /** "Throws IllegalArgumentException if wide is not 1 to 20", of hinders */
    private static void hindersRefusesWidths() {
        StakeWeirs x = new StakeWeirs();
        x.weir(7, 30, 0);
        CHECK.refused("hinders(0)", Check.ARGUMENT, x, () -> x.hinders(0));
        CHECK.refused("hinders(-1)", Check.ARGUMENT, x, () -> x.hinders(-1));
        CHECK.refused("hinders(21)", Check.ARGUMENT, x, () -> x.hinders(21));
        for (int wide : Estuaries.EXTREMES) {
            CHECK.refused("hinders(" + wide + ")", Check.ARGUMENT, x, () -> x.hinders(wide));
        }
    }

    /** "wide is not 1 to 20": these are. */
    private static void hindersOfItsLeastAndItsMost() {
        StakeWeirs x = new StakeWeirs();
        int[] stakes = {30, 29, 11, 10, 1};
        for (int s : stakes) {
            x.weir(7, s, 0);
        }
        CHECK.due("hinders(1)", 1, x.hinders(1));
        CHECK.due("hinders(2)", 2, x.hinders(2));
        CHECK.due("hinders(19)", 2, x.hinders(19));
        CHECK.due("hinders(20)", 3, x.hinders(20));
    }

    /** "how many weirs are in the way", with none */
    private static void hindersWithoutAny() {
        StakeWeirs x = new StakeWeirs();
        CHECK.due("hinders(1) without weirs", 0, x.hinders(1));
        CHECK.due("hinders(20) without weirs", 0, x.hinders(20));
        x.weir(7, 10, 0);
        CHECK.due("hinders(20) with none in the way", 0, x.hinders(20));
    }

    /** "how many weirs are in the way of a barge of this width, as all are now", with all */
    private static void hindersIsOfAllPlaces() {
        StakeWeirs x = new StakeWeirs();
        int[] places = {0, 0, 1, 20, 38, 39};
        for (int place : places) {
            x.weir(place, 30, 0);
        }
        CHECK.due("hinders(1) of six", 6, x.hinders(1));
        x.barge(1);
        x.pass(1);
        CHECK.due("hinders(1) when two are broken", 4, x.hinders(1));
        CHECK.due("hinders(2) when two are broken", 6, x.hinders(2));
    }

    /** "of several the one with the smallest number" */
    private static void richestIsTheSmallestNumberOfSeveral() {
        StakeWeirs x = new StakeWeirs();
        for (int i = 0; i < 6; i++) {
            x.weir(7, 7, 0);
        }
        for (int i = 0; i < 6; i++) {
            CHECK.due("richest() of those from " + i, i, x.richest());
            x.drive(i, 1);
        }
        CHECK.due("richest() of all again", 0, x.richest());
        for (int i = 5; i >= 0; i--) {
            CHECK.due("richest() of those to " + i, 0, x.richest());
            x.drive(i, 9);
        }
        CHECK.due("richest() of those without coins", 0, x.richest());
    }

    /** "the most coins of those that are held" */
    private static void richestIsHeld() {
        StakeWeirs x = Estuaries.withForfeit();
        x.weir(7, 7, 0);
        CHECK.due("richest() of as many coins", 1, x.richest());
        x.drive(1, 10);
        CHECK.due("richest() of fewer coins", 1, x.richest());
        x.weir(7, 7, 0);
        CHECK.due("richest() of two that are held", 2, x.richest());
        x.gate(2);
        CHECK.due("richest() of an open one", 2, x.richest());
    }

    /** "-1 without any." */
    private static void richestWithoutAny() {
        StakeWeirs none = new StakeWeirs();
        CHECK.due("richest() without weirs", -1, none.richest());
        StakeWeirs x = Estuaries.withForfeit();
        CHECK.due("richest() without any that is held", -1, x.richest());
    }
}
