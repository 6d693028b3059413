/** The edges that promises 7 and 8 name: setRun, barge. */
final class EdgesOfEelsAndBargesTest {
    private static final Check CHECK = new Check();

    public static void main(String[] args) {
        setRunRefusesNights();
        setRunRefusesEels();
        setRunThrowsForTheNightFirst();
        setRunTakesItsLeastAndItsMost();
        bargeRefusesWidths();
        bargeTakesItsLeastAndItsMost();
        bargeRefusesASixth();
        bargeIsTakenAgainWhenOneHasArrived();
        bargeThrowsForTheWidthFirst();
        CHECK.end();
    }

    /** "Throws IndexOutOfBoundsException if night is not 0 to 6" */
    private static void setRunRefusesNights() {
        StakeWeirs x = new StakeWeirs();
        CHECK.refused("setRun(-1, 5)", Check.INDEX, x, () -> x.setRun(-1, 5));
        CHECK.refused("setRun(7, 5)", Check.INDEX, x, () -> x.setRun(7, 5));
        for (int night : Estuaries.EXTREMES) {
            CHECK.refused("setRun(" + night + ", 5)", Check.INDEX, x, () -> x.setRun(night, 5));
        }
        x.pass(7);
        CHECK.refused("setRun(7, 5) in the night 7", Check.INDEX, x, () -> x.setRun(7, 5));
    }

    /** "Throws IllegalArgumentException if eels is not 0 to 99" */
    private static void setRunRefusesEels() {
        StakeWeirs x = new StakeWeirs();
        CHECK.refused("setRun(0, -1)", Check.ARGUMENT, x, () -> x.setRun(0, -1));
        CHECK.refused("setRun(6, 100)", Check.ARGUMENT, x, () -> x.setRun(6, 100));
        for (int eels : Estuaries.EXTREMES) {
            CHECK.refused("setRun(3, " + eels + ")", Check.ARGUMENT, x, () -> x.setRun(3, eels));
        }
        CHECK.due("setRun(3, 5): the eels before", 30, x.setRun(3, 5));
    }

    /** "If several exceptions apply, the one that is named first is thrown.", of setRun */
    private static void setRunThrowsForTheNightFirst() {
        StakeWeirs x = new StakeWeirs();
        CHECK.refused("setRun(-1, -1)", Check.INDEX, x, () -> x.setRun(-1, -1));
        CHECK.refused("setRun(7, 100)", Check.INDEX, x, () -> x.setRun(7, 100));
    }

    /** "night is not 0 to 6", "eels is not 0 to 99": these are. "Returns the eels before." */
    private static void setRunTakesItsLeastAndItsMost() {
        StakeWeirs x = new StakeWeirs();
        CHECK.due("setRun(0, 0)", 30, x.setRun(0, 0));
        CHECK.due("run of the night 0", 0, x.count(2));
        CHECK.due("setRun(0, 99)", 0, x.setRun(0, 99));
        CHECK.due("run of the night 0 then", 297, x.count(2));
        CHECK.due("setRun(0, 99) again", 99, x.setRun(0, 99));
        CHECK.due("setRun(6, 99)", 30, x.setRun(6, 99));
        CHECK.due("setRun(6, 0)", 99, x.setRun(6, 0));
        CHECK.due("setRun(6, 1)", 0, x.setRun(6, 1));
        x.pass(6);
        CHECK.due("run of the night 6, by a half moon", 2, x.count(2));
    }

    /** "Throws IllegalArgumentException if wide is not 1 to 20" */
    private static void bargeRefusesWidths() {
        StakeWeirs x = new StakeWeirs();
        CHECK.refused("barge(0)", Check.ARGUMENT, x, () -> x.barge(0));
        CHECK.refused("barge(-1)", Check.ARGUMENT, x, () -> x.barge(-1));
        CHECK.refused("barge(21)", Check.ARGUMENT, x, () -> x.barge(21));
        for (int wide : Estuaries.EXTREMES) {
            CHECK.refused("barge(" + wide + ")", Check.ARGUMENT, x, () -> x.barge(wide));
        }
        CHECK.due("barges under way", 0, x.count(5));
    }

    /** "wide is not 1 to 20": these are. "Returns its number." */
    private static void bargeTakesItsLeastAndItsMost() {
        StakeWeirs x = new StakeWeirs();
        CHECK.due("barge(1)", 0, x.barge(1));
        CHECK.due("barge(20)", 1, x.barge(20));
        CHECK.due("width of 0", 1, x.told(0, 0));
        CHECK.due("width of 1", 20, x.told(1, 0));
    }

    private static StakeWeirs withFiveBarges() {
        StakeWeirs x = new StakeWeirs();
        for (int i = 0; i < 5; i++) {
            CHECK.due("barge(4)", i, x.barge(4));
        }
        return x;
    }

    /** "Throws IllegalStateException if 5 are under way" */
    private static void bargeRefusesASixth() {
        StakeWeirs x = withFiveBarges();
        CHECK.refused("barge(1)", Check.STATE, x, () -> x.barge(1));
        CHECK.refused("barge(20)", Check.STATE, x, () -> x.barge(20));
        x.pass(7);
        CHECK.refused("barge(4) in the last night", Check.STATE, x, () -> x.barge(4));
        CHECK.due("barges under way", 5, x.count(5));
    }

    /** "if 5 are under way": those that have arrived are not under way any more. */
    private static void bargeIsTakenAgainWhenOneHasArrived() {
        StakeWeirs x = new StakeWeirs();
        x.barge(4);
        x.pass(1);
        for (int i = 1; i < 5; i++) {
            x.barge(4);
        }
        CHECK.refused("barge(9) of five", Check.STATE, x, () -> x.barge(9));
        CHECK.due("pass(7)", 1, x.pass(7));
        CHECK.due("barge(9) of four", 4, x.barge(9));
        CHECK.refused("barge(9) of five again", Check.STATE, x, () -> x.barge(9));
        CHECK.due("pass(1)", 4, x.pass(1));
        for (int i = 1; i < 5; i++) {
            CHECK.due("barge(4) of " + i, i, x.barge(4));
        }
        CHECK.refused("barge(4) of five then", Check.STATE, x, () -> x.barge(4));
    }

    /** "If several exceptions apply, the one that is named first is thrown.", of barge */
    private static void bargeThrowsForTheWidthFirst() {
        StakeWeirs x = withFiveBarges();
        CHECK.refused("barge(0) of five", Check.ARGUMENT, x, () -> x.barge(0));
        CHECK.refused("barge(21) of five", Check.ARGUMENT, x, () -> x.barge(21));
    }
}
