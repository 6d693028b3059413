/** Promises 7 and 8: setRun, barge. */
final class EelsAndBargesTest {
    private static final Check CHECK = new Check();

    public static void main(String[] args) {
        setRunAnswersTheEelsBefore();
        setRunIsForTheNightByTheRemainderOfSeven();
        setRunRefuses();
        bargesAreNumberedAndNew();
        bargeRefuses();
        thereIsRoomWhenOneHasArrived();
        CHECK.end();
    }

    private static void setRunAnswersTheEelsBefore() {
        StakeWeirs x = new StakeWeirs();
        for (int night = 0; night < 7; night++) {
            CHECK.due("setRun(" + night + ", 0)", 30, x.setRun(night, 0));
            CHECK.due("setRun(" + night + ", 99)", 0, x.setRun(night, 99));
            CHECK.due("setRun(" + night + ", 5)", 99, x.setRun(night, 5));
        }
    }

    private static void setRunIsForTheNightByTheRemainderOfSeven() {
        StakeWeirs x = new StakeWeirs();
        for (int night = 0; night < 7; night++) {
            x.setRun(night, 10 + night);
        }
        for (int night = 0; night < 35; night++) {
            int times = 3 - x.count(1);
            CHECK.due("count(2) in the night " + night, (10 + night % 7) * times, x.count(2));
            x.pass(1);
        }
    }

    private static void setRunRefuses() {
        StakeWeirs x = new StakeWeirs();
        CHECK.refused("setRun(-1, 100)", Check.INDEX, x, () -> x.setRun(-1, 100));
        CHECK.refused("setRun(7, 1)", Check.INDEX, x, () -> x.setRun(7, 1));
        CHECK.refused("setRun(6, -1)", Check.ARGUMENT, x, () -> x.setRun(6, -1));
        CHECK.refused("setRun(0, 100)", Check.ARGUMENT, x, () -> x.setRun(0, 100));
    }

    private static void bargesAreNumberedAndNew() {
        StakeWeirs x = new StakeWeirs();
        int[] widths = {1, 20, 7};
        for (int i = 0; i < widths.length; i++) {
            CHECK.due("barge(" + widths[i] + ")", i, x.barge(widths[i]));
            CHECK.due("its width", widths[i], x.told(i, 0));
            CHECK.due("its place", -1, x.told(i, 1));
            CHECK.due("its broken weirs", 0, x.told(i, 2));
            CHECK.due("what is in its way", -1, x.told(i, 3));
        }
        CHECK.due("barges under way", 3, x.count(5));
    }

    private static void bargeRefuses() {
        StakeWeirs x = new StakeWeirs();
        CHECK.refused("barge(0)", Check.ARGUMENT, x, () -> x.barge(0));
        CHECK.refused("barge(21)", Check.ARGUMENT, x, () -> x.barge(21));
        for (int i = 0; i < 5; i++) {
            x.barge(4);
        }
        CHECK.refused("sixth barge", Check.STATE, x, () -> x.barge(4));
        CHECK.refused("sixth barge, too wide", Check.ARGUMENT, x, () -> x.barge(21));
    }

    private static void thereIsRoomWhenOneHasArrived() {
        StakeWeirs x = new StakeWeirs();
        x.weir(5, 30, 0);
        x.weir(5, 25, 0);
        x.barge(4);
        x.pass(1);
        for (int i = 1; i < 5; i++) {
            x.barge(10 + i);
        }
        CHECK.due("pass(8)", 1, x.pass(8));
        for (int i = 0; i < 4; i++) {
            CHECK.due("width of " + i, 11 + i, x.told(i, 0));
            CHECK.due("place of " + i, 35, x.told(i, 1));
            CHECK.due("weirs that it broke through, of " + i, 2, x.told(i, 2));
        }
        CHECK.due("barge(9)", 4, x.barge(9));
        CHECK.due("it is new", -1, x.told(4, 1));
        CHECK.due("it has broken nothing", 0, x.told(4, 2));
    }
}
