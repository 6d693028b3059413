/** Promises 15 to 19: catches, arrives, lasts, foresee, advise. */
final class ForesightTest {
    private static final Check CHECK = new Check();

    public static void main(String[] args) {
        catchesTellsOfThisNight();
        arrivesTellsOfEveryBarge();
        arrivesKnowsABargeWhoseNumberFalls();
        arrivesKnowsABargeThatCameWhenOthersHadArrived();
        lastsTellsWhenWattleIsGone();
        lastsTellsWhenItIsForfeit();
        foreseeTellsAsCountWill();
        foreseeRefuses();
        adviseTakesTheLeastOfTheBest();
        adviseKnowsThatTooManyStakesAreBroken();
        adviseIsOneForOpenAndForfeit();
        adviseRefuses();
        questionsChangeNothing();
        CHECK.end();
    }

    private static void catchesTellsOfThisNight() {
        StakeWeirs x = new StakeWeirs();
        x.weir(5, 30, 0);
        x.weir(9, 20, 50);
        x.weir(2, 30, 0);
        x.gate(2);
        for (int night = 0; night < 45; night++) {
            int[] will = {x.catches(0), x.catches(1), x.catches(2)};
            int[] had = {x.about(0, 5), x.about(1, 5)};
            boolean forfeits = night == 41;
            x.pass(1);
            CHECK.due("catch of 0 in the night " + night, will[0], x.about(0, 5) - had[0]);
            if (!forfeits) {
                CHECK.due("catch of 1 in the night " + night, will[1], x.about(1, 5) - had[1]);
            }
            CHECK.due("catch of an open one", 0, will[2]);
        }
        CHECK.due("catch of a forfeit one", 0, x.catches(1));
        CHECK.refused("catches(3)", Check.INDEX, x, () -> x.catches(3));
        CHECK.refused("catches(-1)", Check.INDEX, x, () -> x.catches(-1));
    }

    private static void arrivesTellsOfEveryBarge() {
        StakeWeirs x = new StakeWeirs();
        x.barge(1);
        CHECK.due("arrives(0) on a free way", 8, x.arrives(0));
        int[] places = {0, 1, 2, 3, 4, 39};
        for (int place : places) {
            x.weir(place, 30, 0);
        }
        CHECK.due("arrives(0) through weirs", 12, x.arrives(0));
        x.barge(1);
        CHECK.due("arrives(0) with one that helps it", 10, x.arrives(0));
        CHECK.due("arrives(1) behind it", 10, x.arrives(1));
        CHECK.due("pass(9)", 0, x.pass(9));
        CHECK.due("arrives(0) at last", 1, x.arrives(0));
        CHECK.due("pass(1)", 2, x.pass(1));
        CHECK.refused("arrives(0) without barges", Check.INDEX, x, () -> x.arrives(0));
        CHECK.refused("arrives(-1)", Check.INDEX, x, () -> x.arrives(-1));
    }

    private static void arrivesKnowsABargeWhoseNumberFalls() {
        StakeWeirs x = new StakeWeirs();
        x.weir(20, 15, 0);
        x.barge(2);
        x.pass(3);
        x.barge(20);
        x.pass(2);
        x.barge(3);
        int[] want = {3, 7, 8};
        for (int barge = 0; barge < want.length; barge++) {
            CHECK.due("arrives(" + barge + ")", want[barge], x.arrives(barge));
        }
        CHECK.due("pass(6)", 1, x.pass(6));
        CHECK.due("arrives(0) then", 1, x.arrives(0));
        CHECK.due("arrives(1) then", 2, x.arrives(1));
    }

    private static void arrivesKnowsABargeThatCameWhenOthersHadArrived() {
        StakeWeirs x = new StakeWeirs();
        x.barge(5);
        x.pass(1);
        x.barge(5);
        x.barge(5);
        x.pass(7);
        x.barge(5);
        x.barge(5);
        int[] want = {1, 1, 8, 8};
        for (int barge = 0; barge < want.length; barge++) {
            CHECK.due("arrives(" + barge + ")", want[barge], x.arrives(barge));
        }
    }

    private static void lastsTellsWhenWattleIsGone() {
        StakeWeirs x = new StakeWeirs();
        x.weir(3, 9, 0);
        x.weir(4, 30, 0);
        CHECK.due("lasts(0)", 46, x.lasts(0));
        x.barge(20);
        CHECK.due("lasts(0) of one that is not in the way", 46, x.lasts(0));
        CHECK.due("lasts(1) of one that is broken", 39, x.lasts(1));
        x.gate(1);
        CHECK.due("lasts(1) of an open one", 46, x.lasts(1));
        x.pass(45);
        CHECK.due("lasts(0) in the last night", 1, x.lasts(0));
        x.pass(1);
        CHECK.due("wattle", 0, x.about(0, 2));
        CHECK.due("lasts(0) without wattle", 0, x.lasts(0));
        CHECK.refused("lasts(2)", Check.INDEX, x, () -> x.lasts(2));
        CHECK.refused("lasts(-1)", Check.INDEX, x, () -> x.lasts(-1));
    }

    private static void lastsTellsWhenItIsForfeit() {
        StakeWeirs x = new StakeWeirs();
        x.weir(3, 9, 21);
        CHECK.due("lasts(0) of one that pays no rent", 42, x.lasts(0));
        x.pass(42);
        CHECK.due("wattle of the forfeit weir", 10, x.about(0, 2));
        CHECK.due("lasts(0) of a forfeit weir", 0, x.lasts(0));
    }

    private static StakeWeirs busyEstuary() {
        StakeWeirs x = new StakeWeirs();
        x.weir(3, 9, 21);
        x.weir(4, 30, 5);
        x.weir(4, 28, 2);
        x.weir(17, 12, 19);
        x.barge(20);
        x.barge(3);
        x.barge(14);
        return x;
    }

    private static void foreseeTellsAsCountWill() {
        int[] whats = {4, 6, 7, 8, 9};
        for (int nights = 1; nights <= 56; nights += 5) {
            StakeWeirs x = busyEstuary();
            int[] will = new int[whats.length];
            for (int i = 0; i < whats.length; i++) {
                will[i] = x.foresee(nights, whats[i]);
            }
            x.pass(nights);
            for (int i = 0; i < whats.length; i++) {
                CHECK.due("foresee(" + nights + ", " + whats[i] + ")", x.count(whats[i]), will[i]);
            }
        }
    }

    private static void foreseeRefuses() {
        StakeWeirs x = busyEstuary();
        int[] wrong = {-1, 0, 1, 2, 3, 5, 10, Integer.MAX_VALUE};
        for (int what : wrong) {
            CHECK.refused("foresee(56, " + what + ")", Check.INDEX, x, () -> x.foresee(56, what));
            CHECK.refused("foresee(57, " + what + ")", Check.ARGUMENT, x,
                    () -> x.foresee(57, what));
        }
        CHECK.refused("foresee(0, 4)", Check.ARGUMENT, x, () -> x.foresee(0, 4));
    }

    private static void adviseTakesTheLeastOfTheBest() {
        StakeWeirs x = new StakeWeirs();
        x.weir(3, 9, 0);
        CHECK.due("advise(0, 1): the most of one night", 30, x.advise(0, 1));
        x.setRun(0, 1);
        CHECK.due("advise(0, 1) with three eels", 30, x.advise(0, 1));
        x.setRun(0, 0);
        CHECK.due("advise(0, 1) without eels", 1, x.advise(0, 1));
        CHECK.due("advise(0, 20) until it is full", 8, adviseOfFullTable(20));
        CHECK.due("advise(0, 2) until it is full", 11, adviseOfFullTable(2));
        CHECK.due("stakes are as they were", 9, x.about(0, 1));
    }

    private static int adviseOfFullTable(int nights) {
        StakeWeirs x = new StakeWeirs();
        x.weir(3, 9, 0);
        for (int night = 0; night < 7; night++) {
            x.setRun(night, nights == 2 ? 99 : 30);
        }
        return x.advise(0, nights);
    }

    private static void adviseKnowsThatTooManyStakesAreBroken() {
        StakeWeirs x = new StakeWeirs();
        x.weir(0, 25, 0);
        x.setRun(0, 1);
        x.barge(12);
        CHECK.due("advise(0, 1): it catches before it is broken", 30, x.advise(0, 1));
        CHECK.due("advise(0, 3): 18 stakes stand", 18, x.advise(0, 3));
        x.weir(1, 30, 0);
        CHECK.due("advise(0, 3) below a whole weir", 30, x.advise(1, 3));
    }

    private static void adviseIsOneForOpenAndForfeit() {
        StakeWeirs x = new StakeWeirs();
        x.weir(3, 9, 0);
        x.weir(3, 9, 50);
        x.gate(0);
        CHECK.due("advise(0, 5) of an open one", 1, x.advise(0, 5));
        x.pass(42);
        CHECK.due("advise(1, 5) of a forfeit one", 1, x.advise(1, 5));
    }

    private static void adviseRefuses() {
        StakeWeirs x = busyEstuary();
        CHECK.refused("advise(4, 0)", Check.INDEX, x, () -> x.advise(4, 0));
        CHECK.refused("advise(-1, 1)", Check.INDEX, x, () -> x.advise(-1, 1));
        CHECK.refused("advise(0, 0)", Check.ARGUMENT, x, () -> x.advise(0, 0));
        CHECK.refused("advise(0, 21)", Check.ARGUMENT, x, () -> x.advise(0, 21));
        x.gate(0);
        CHECK.refused("advise(0, 21) of an open one", Check.ARGUMENT, x, () -> x.advise(0, 21));
    }

    private static void questionsChangeNothing() {
        StakeWeirs x = busyEstuary();
        x.pass(2);
        CHECK.unchanged("catches(1)", x, () -> x.catches(1));
        CHECK.unchanged("arrives(1)", x, () -> x.arrives(1));
        CHECK.unchanged("lasts(1)", x, () -> x.lasts(1));
        CHECK.unchanged("foresee(56, 9)", x, () -> x.foresee(56, 9));
        CHECK.unchanged("advise(1, 20)", x, () -> x.advise(1, 20));
        CHECK.unchanged("hinders(20)", x, () -> x.hinders(20));
        CHECK.unchanged("richest()", x, () -> x.richest());
        CHECK.unchanged("mean()", x, () -> x.mean());
    }
}
