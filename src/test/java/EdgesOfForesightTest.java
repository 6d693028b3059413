/** The edges that promises 15 to 19 name: catches, arrives, lasts, foresee, advise. */
final class EdgesOfForesightTest {
    private static final Check CHECK = new Check();
    private static final int[] FORESEEN = {4, 6, 7, 8, 9};

    public static void main(String[] args) {
        catchesRefusesNoSuchWeir();
        catchesIsNoneOfOpenAndForfeit();
        catchesIsNoneWithoutRoomRunOrWattle();
        catchesIsOfThisNight();
        catchesKnowsThoseAboveIt();
        arrivesRefusesNoSuchBarge();
        arrivesOnAFreeWay();
        arrivesFromNearTheLastPlace();
        arrivesAtTheSlowest();
        arrivesKnowsEarlierAndLaterBarges();
        arrivesKnowsOpenWeirs();
        arrivesKnowsThatAWeirWillBeForfeit();
        arrivesKnowsNumbersThatFall();
        arrivesKnowsThoseThatCameWhenOthersHadArrived();
        lastsRefusesNoSuchWeir();
        lastsIsNoneIfSoNow();
        lastsIsOneInTheLastNight();
        lastsFromEachNight();
        lastsUntilForfeit();
        lastsKnowsBarges();
        foreseeRefusesNights();
        foreseeRefusesWhat();
        foreseeThrowsForTheNightsFirst();
        foreseeTakesItsLeastAndItsMost();
        foreseeOfJustTheNightsOfAChange();
        foreseeAddsToWhatThereIs();
        foreseeOfAnEmptyEstuary();
        adviseRefusesNoSuchWeir();
        adviseRefusesNights();
        adviseThrowsForTheWeirFirst();
        adviseTakesItsLeastAndItsMost();
        adviseIsOneForOpenAndForfeit();
        adviseIsTheLeastOfSeveral();
        adviseIsFromOneToThirty();
        adviseIsAtNoCost();
        adviseIsWithTheEelsThatItHas();
        adviseKnowsBarges();
        adviseKnowsThatAFineCanForfeit();
        adviseKnowsThatAllIsForfeit();
        nothingIsChanged();
        CHECK.end();
    }

    /** Six weirs and four barges, on their way, in the night 30. */
    private static StakeWeirs busy() {
        StakeWeirs x = new StakeWeirs();
        x.weir(38, 12, 21);
        x.weir(10, 30, 5);
        x.weir(10, 28, 2);
        x.weir(17, 12, 19);
        x.weir(0, 25, 0);
        x.weir(31, 30, 50);
        Estuaries.passTo(x, 27);
        x.gate(3);
        x.barge(20);
        x.barge(3);
        x.pass(3);
        x.barge(14);
        x.barge(1);
        return x;
    }

    /** "Throws IndexOutOfBoundsException if there is no such weir", of catches */
    private static void catchesRefusesNoSuchWeir() {
        StakeWeirs none = new StakeWeirs();
        CHECK.refused("catches(0) without weirs", Check.INDEX, none, () -> none.catches(0));
        StakeWeirs x = busy();
        CHECK.refused("catches(-1)", Check.INDEX, x, () -> x.catches(-1));
        CHECK.refused("catches(6)", Check.INDEX, x, () -> x.catches(6));
        for (int weir : Estuaries.EXTREMES) {
            CHECK.refused("catches(" + weir + ")", Check.INDEX, x, () -> x.catches(weir));
        }
    }

    /** "how many eels it will catch in this night", of weirs that catch nothing */
    private static void catchesIsNoneOfOpenAndForfeit() {
        StakeWeirs x = Estuaries.withForfeit();
        CHECK.due("catches(0) of a forfeit one", 0, x.catches(0));
        x.weir(7, 30, 0);
        x.gate(1);
        CHECK.due("catches(1) of an open one", 0, x.catches(1));
        x.gate(1);
        CHECK.due("catches(1) of a shut one", 30, x.catches(1));
    }

    /** "how many eels it will catch in this night", where there is nothing to catch */
    private static void catchesIsNoneWithoutRoomRunOrWattle() {
        StakeWeirs full = Estuaries.withoutWattle();
        CHECK.due("it is full", 200, full.about(0, 5));
        full.mend(0, 100);
        CHECK.due("catches(0) of a full one", 0, full.catches(0));
        full.sell(0);
        CHECK.due("catches(0) when it has sold", 60 / 2, full.catches(0));
        StakeWeirs bare = Estuaries.withoutWattle();
        bare.sell(0);
        CHECK.due("catches(0) without wattle", 0, bare.catches(0));
        StakeWeirs still = new StakeWeirs();
        still.weir(7, 30, 0);
        still.setRun(0, 0);
        CHECK.due("catches(0) of no run", 0, still.catches(0));
        still.setRun(0, 99);
        CHECK.due("catches(0) of the most", 200, still.catches(0));
    }

    /** "in this night": by its moon, and by its table */
    private static void catchesIsOfThisNight() {
        StakeWeirs x = new StakeWeirs();
        for (int night = 0; night < 7; night++) {
            x.setRun(night, 10 * night + 3);
        }
        x.weir(7, 30, 0);
        int[] want = {9, 39 * 97 / 100, 69 * 94 / 100, 99 * 91 / 100, 86 * 88 / 100, 0};
        for (int night = 0; night < 5; night++) {
            CHECK.due("catches(0) in the night " + night, want[night], x.catches(0));
            int before = x.about(0, 5);
            x.pass(1);
            CHECK.due("eels of the night " + night, Math.min(200, before + want[night]),
                    x.about(0, 5));
            if (x.about(0, 5) > 0) {
                x.sell(0);
            }
        }
    }

    /** "how many eels it will catch", with what is left of the run there */
    private static void catchesKnowsThoseAboveIt() {
        StakeWeirs x = new StakeWeirs();
        x.weir(0, 30, 0);
        x.weir(1, 15, 0);
        x.weir(1, 10, 0);
        int[] want = {30, 45, 15};
        for (int weir = 0; weir < 3; weir++) {
            CHECK.due("catches(" + weir + ")", want[weir], x.catches(weir));
        }
        x.gate(1);
        int[] then = {60, 0, 30};
        for (int weir = 0; weir < 3; weir++) {
            CHECK.due("catches(" + weir + ") then", then[weir], x.catches(weir));
        }
    }

    /** "Throws IndexOutOfBoundsException if there is no such barge", of arrives */
    private static void arrivesRefusesNoSuchBarge() {
        StakeWeirs none = new StakeWeirs();
        CHECK.refused("arrives(0) without barges", Check.INDEX, none, () -> none.arrives(0));
        StakeWeirs x = new StakeWeirs();
        x.barge(5);
        x.barge(5);
        CHECK.refused("arrives(-1)", Check.INDEX, x, () -> x.arrives(-1));
        CHECK.refused("arrives(2)", Check.INDEX, x, () -> x.arrives(2));
        for (int barge : Estuaries.EXTREMES) {
            CHECK.refused("arrives(" + barge + ")", Check.INDEX, x, () -> x.arrives(barge));
        }
        x.pass(8);
        CHECK.refused("arrives(0) when it has arrived", Check.INDEX, x, () -> x.arrives(0));
    }

    /** "behind how many nights it will have arrived", with nothing in its way */
    private static void arrivesOnAFreeWay() {
        StakeWeirs x = new StakeWeirs();
        x.barge(20);
        for (int nights = 8; nights >= 1; nights--) {
            CHECK.due("arrives(0) behind " + (8 - nights), nights, x.arrives(0));
            CHECK.due("pass(1)", nights == 1 ? 1 : 0, x.pass(1));
        }
    }

    /** "behind how many nights it will have arrived", from the places 33 to 38 */
    private static void arrivesFromNearTheLastPlace() {
        for (int place = 33; place <= 38; place++) {
            StakeWeirs x = new StakeWeirs();
            x.weir(place, 30, 0);
            x.barge(5);
            x.pass(place <= 34 ? 7 : 8);
            CHECK.due("place", place, x.told(0, 1));
            CHECK.due("arrives(0) from " + place, place == 33 ? 2 : 1, x.arrives(0));
        }
    }

    /** "behind how many nights it will have arrived", with the most weirs that hold it up */
    private static void arrivesAtTheSlowest() {
        StakeWeirs x = new StakeWeirs();
        for (int place = 0; place < 6; place++) {
            x.weir(place, 30, 0);
        }
        x.barge(1);
        CHECK.due("arrives(0)", 13, x.arrives(0));
        CHECK.due("pass(12)", 0, x.pass(12));
        CHECK.due("arrives(0) then", 1, x.arrives(0));
        CHECK.due("pass(1)", 1, x.pass(1));
    }

    /** "Barges, by numbers": those before it make way, those behind it do not. */
    private static void arrivesKnowsEarlierAndLaterBarges() {
        StakeWeirs x = new StakeWeirs();
        x.weir(0, 30, 0);
        x.barge(5);
        x.barge(5);
        x.barge(6);
        int[] want = {9, 8, 9};
        for (int barge = 0; barge < 3; barge++) {
            CHECK.due("arrives(" + barge + ")", want[barge], x.arrives(barge));
        }
    }

    /** "if nothing is done": gates stay as they are. */
    private static void arrivesKnowsOpenWeirs() {
        StakeWeirs x = new StakeWeirs();
        x.weir(0, 30, 0);
        x.barge(5);
        CHECK.due("arrives(0) with a shut one", 9, x.arrives(0));
        x.gate(0);
        CHECK.due("arrives(0) with an open one", 8, x.arrives(0));
    }

    /** "if nothing is done": what will be forfeit will be in no way. */
    private static void arrivesKnowsThatAWeirWillBeForfeit() {
        int[][] nights = {{33, 9}, {34, 9}, {35, 8}, {36, 8}};
        for (int[] n : nights) {
            StakeWeirs x = new StakeWeirs();
            x.weir(35, 30, 50);
            Estuaries.passTo(x, n[0]);
            x.barge(5);
            CHECK.due("arrives(0) in the night " + n[0], n[1], x.arrives(0));
            x.pass(n[1] - 1);
            CHECK.due("under way until the last night", 1, x.count(5));
            CHECK.due("pass(1)", 1, x.pass(1));
        }
    }

    /** "Where one has arrived, those behind it have numbers that are 1 less." */
    private static void arrivesKnowsNumbersThatFall() {
        StakeWeirs x = new StakeWeirs();
        x.weir(0, 12, 0);
        x.barge(20);
        x.barge(1);
        x.pass(1);
        x.barge(7);
        x.pass(3);
        x.barge(8);
        x.barge(9);
        int[] want = {5, 4, 5, 8, 8};
        for (int barge = 0; barge < 5; barge++) {
            CHECK.due("arrives(" + barge + ")", want[barge], x.arrives(barge));
        }
        CHECK.due("pass(4)", 1, x.pass(4));
        int[] then = {1, 1, 4, 4};
        for (int barge = 0; barge < 4; barge++) {
            CHECK.due("arrives(" + barge + ") then", then[barge], x.arrives(barge));
        }
    }

    /** "numbers that are 1 less": a later one has a number that an earlier one has had. */
    private static void arrivesKnowsThoseThatCameWhenOthersHadArrived() {
        StakeWeirs x = new StakeWeirs();
        for (int i = 0; i < 2; i++) {
            x.barge(5);
            x.pass(1);
        }
        x.barge(5);
        x.barge(5);
        CHECK.due("pass(6)", 1, x.pass(6));
        x.barge(5);
        x.barge(5);
        int[] want = {1, 2, 2, 8, 8};
        for (int barge = 0; barge < want.length; barge++) {
            CHECK.due("arrives(" + barge + ")", want[barge], x.arrives(barge));
        }
        CHECK.due("pass(2)", 3, x.pass(2));
        x.barge(5);
        int[] then = {6, 6, 8};
        for (int barge = 0; barge < then.length; barge++) {
            CHECK.due("arrives(" + barge + ") then", then[barge], x.arrives(barge));
        }
    }

    /** "Throws IndexOutOfBoundsException if there is no such weir", of lasts */
    private static void lastsRefusesNoSuchWeir() {
        StakeWeirs none = new StakeWeirs();
        CHECK.refused("lasts(0) without weirs", Check.INDEX, none, () -> none.lasts(0));
        StakeWeirs x = busy();
        CHECK.refused("lasts(-1)", Check.INDEX, x, () -> x.lasts(-1));
        CHECK.refused("lasts(6)", Check.INDEX, x, () -> x.lasts(6));
        for (int weir : Estuaries.EXTREMES) {
            CHECK.refused("lasts(" + weir + ")", Check.INDEX, x, () -> x.lasts(weir));
        }
    }

    /** "0 if so now" */
    private static void lastsIsNoneIfSoNow() {
        StakeWeirs bare = Estuaries.withoutWattle();
        CHECK.due("wattle", 0, bare.about(0, 2));
        CHECK.due("lasts(0) without wattle", 0, bare.lasts(0));
        bare.mend(0, 1);
        CHECK.due("lasts(0) of 1", 1, bare.lasts(0));
        StakeWeirs forfeit = Estuaries.withForfeit();
        CHECK.due("wattle of a forfeit one", 10, forfeit.about(0, 2));
        CHECK.due("lasts(0) of a forfeit one", 0, forfeit.lasts(0));
    }

    /** "behind how many nights it has no wattle any more": by 3, by 1, and at least 0 */
    private static void lastsIsOneInTheLastNight() {
        int[][] wattle = {{46, 1, 1}, {46, 3, 1}, {46, 4, 2}, {46, 5, 3}, {47, 1, 1}, {47, 2, 2},
            {52, 2, 2}, {52, 4, 2}, {52, 5, 3}, {53, 3, 1}, {53, 4, 2}};
        for (int[] w : wattle) {
            StakeWeirs x = Estuaries.withoutWattle();
            Estuaries.passTo(x, w[0]);
            x.mend(0, w[1]);
            CHECK.due("lasts(0) of " + w[1] + " in the night " + w[0], w[2], x.lasts(0));
            if (w[2] > 1) {
                x.pass(w[2] - 1);
            }
            CHECK.due("lasts(0) of " + w[1] + " in its last night", 1, x.lasts(0));
            x.pass(1);
            CHECK.due("wattle then", 0, x.about(0, 2));
            CHECK.due("lasts(0) then", 0, x.lasts(0));
        }
    }

    /** "behind how many nights it has no wattle any more", whatever the moon is */
    private static void lastsFromEachNight() {
        String moons = "0000111111222222222111111000";
        for (int first = 0; first < 28; first++) {
            StakeWeirs x = new StakeWeirs();
            Estuaries.passTo(x, first);
            x.weir(7, 7, 0);
            int nights = 0;
            for (int wattle = 100; wattle > 0; nights++) {
                wattle -= moons.charAt((first + nights) % 28) == '1' ? 1 : 3;
            }
            CHECK.due("lasts(0) of a new one in the night " + first, nights, x.lasts(0));
            x.gate(0);
            CHECK.due("lasts(0) of an open one", nights, x.lasts(0));
        }
    }

    /** "or is forfeit" */
    private static void lastsUntilForfeit() {
        StakeWeirs x = new StakeWeirs();
        x.weir(7, 7, 21);
        x.weir(7, 7, 20);
        CHECK.due("lasts(0) of one that pays nothing", 42, x.lasts(0));
        CHECK.due("lasts(1) of one that pays once", 46, x.lasts(1));
        x.pass(41);
        CHECK.due("lasts(0) in the last night", 1, x.lasts(0));
        x.mend(0, 80);
        CHECK.due("lasts(0) in the last night, mended", 1, x.lasts(0));
        StakeWeirs late = new StakeWeirs();
        Estuaries.passTo(late, 13);
        late.weir(7, 7, 50);
        CHECK.due("lasts(0) of one that is made in a night of rents", 29, late.lasts(0));
        late.pass(1);
        late.weir(7, 7, 50);
        CHECK.due("lasts(1) of one that is made behind it", 42, late.lasts(1));
    }

    /** "if nothing is done": barges break through still, but no open ones. */
    private static void lastsKnowsBarges() {
        StakeWeirs x = new StakeWeirs();
        x.weir(0, 30, 0);
        x.pass(1);
        for (int wide = 1; wide <= 5; wide++) {
            x.barge(wide);
        }
        CHECK.due("lasts(0) of one that is broken five times", 1, x.lasts(0));
        x.gate(0);
        CHECK.due("lasts(0) of an open one", 45, x.lasts(0));
    }

    /** "Throws IllegalArgumentException if nights is not 1 to 56" */
    private static void foreseeRefusesNights() {
        StakeWeirs x = busy();
        for (int what : FORESEEN) {
            CHECK.refused("foresee(0, " + what + ")", Check.ARGUMENT, x,
                    () -> x.foresee(0, what));
            CHECK.refused("foresee(-1, " + what + ")", Check.ARGUMENT, x,
                    () -> x.foresee(-1, what));
            CHECK.refused("foresee(57, " + what + ")", Check.ARGUMENT, x,
                    () -> x.foresee(57, what));
        }
        for (int nights : Estuaries.EXTREMES) {
            CHECK.refused("foresee(" + nights + ", 9)", Check.ARGUMENT, x,
                    () -> x.foresee(nights, 9));
        }
    }

    /** "Throws IndexOutOfBoundsException if what is none of these" */
    private static void foreseeRefusesWhat() {
        StakeWeirs x = busy();
        int[] none = {-1, 0, 1, 2, 3, 5, 10};
        for (int what : none) {
            CHECK.refused("foresee(1, " + what + ")", Check.INDEX, x, () -> x.foresee(1, what));
            CHECK.refused("foresee(56, " + what + ")", Check.INDEX, x, () -> x.foresee(56, what));
        }
        for (int what : Estuaries.EXTREMES) {
            CHECK.refused("foresee(1, " + what + ")", Check.INDEX, x, () -> x.foresee(1, what));
        }
    }

    /** "If several exceptions apply, the one that is named first is thrown.", of foresee */
    private static void foreseeThrowsForTheNightsFirst() {
        StakeWeirs x = busy();
        CHECK.refused("foresee(0, 5)", Check.ARGUMENT, x, () -> x.foresee(0, 5));
        CHECK.refused("foresee(57, -1)", Check.ARGUMENT, x, () -> x.foresee(57, -1));
        CHECK.refused("foresee(57, 10)", Check.ARGUMENT, x, () -> x.foresee(57, 10));
    }

    /** "how many, 1 to 56", "4, 6, 7, 8 or 9 as count() has it" */
    private static void foreseeTakesItsLeastAndItsMost() {
        int[] nights = {1, 2, 55, 56};
        for (int n : nights) {
            StakeWeirs x = busy();
            int[] will = new int[FORESEEN.length];
            for (int i = 0; i < FORESEEN.length; i++) {
                will[i] = x.foresee(n, FORESEEN[i]);
            }
            x.pass(n);
            for (int i = 0; i < FORESEEN.length; i++) {
                CHECK.due("foresee(" + n + ", " + FORESEEN[i] + ")", x.count(FORESEEN[i]),
                        will[i]);
            }
        }
    }

    /** "behind so many nights": the night of a change counts just when it is over. */
    private static void foreseeOfJustTheNightsOfAChange() {
        StakeWeirs x = new StakeWeirs();
        x.weir(39, 30, 50);
        x.weir(39, 1, 20);
        x.barge(5);
        int[][] want = {{4, 41, 2, 42, 1}, {6, 7, 0, 8, 1}, {7, 7, 0, 8, 3}, {8, 13, 0, 14, 20},
            {9, 1, 90, 2, 177}};
        for (int[] w : want) {
            CHECK.due("foresee(" + w[1] + ", " + w[0] + ")", w[2], x.foresee(w[1], w[0]));
            CHECK.due("foresee(" + w[3] + ", " + w[0] + ")", w[4], x.foresee(w[3], w[0]));
        }
        CHECK.due("eels before the forfeit", true, x.foresee(41, 9) > 200);
        CHECK.due("eels behind the forfeit", true, x.foresee(42, 9) < 200);
    }

    /** "as count() has it": all fines, rents and arrived ones, those before now as well */
    private static void foreseeAddsToWhatThereIs() {
        StakeWeirs x = new StakeWeirs();
        x.weir(0, 30, 5);
        x.barge(5);
        x.pass(14);
        x.barge(6);
        CHECK.due("arrived before now", 1, x.count(6));
        CHECK.due("foresee(56, 6)", 2, x.foresee(56, 6));
        CHECK.due("fines before now", 3, x.count(7));
        CHECK.due("foresee(56, 7)", 6, x.foresee(56, 7));
        CHECK.due("rents before now", 5, x.count(8));
        CHECK.due("foresee(56, 8): of 12 coins behind the fine 9, for one rent", 10,
                x.foresee(56, 8));
        CHECK.due("foresee(55, 4): it owes three rents in the night 69", 1, x.foresee(55, 4));
        CHECK.due("foresee(56, 4): it owes three rents then", 0, x.foresee(56, 4));
    }

    /** "behind so many nights", of an estuary without anything */
    private static void foreseeOfAnEmptyEstuary() {
        StakeWeirs x = new StakeWeirs();
        for (int what : FORESEEN) {
            CHECK.due("foresee(1, " + what + ")", 0, x.foresee(1, what));
            CHECK.due("foresee(56, " + what + ")", 0, x.foresee(56, what));
        }
    }

    /** "Throws IndexOutOfBoundsException if there is no such weir", of advise */
    private static void adviseRefusesNoSuchWeir() {
        StakeWeirs none = new StakeWeirs();
        CHECK.refused("advise(0, 1) without weirs", Check.INDEX, none, () -> none.advise(0, 1));
        StakeWeirs x = busy();
        CHECK.refused("advise(-1, 1)", Check.INDEX, x, () -> x.advise(-1, 1));
        CHECK.refused("advise(6, 20)", Check.INDEX, x, () -> x.advise(6, 20));
        for (int weir : Estuaries.EXTREMES) {
            CHECK.refused("advise(" + weir + ", 1)", Check.INDEX, x, () -> x.advise(weir, 1));
        }
    }

    /** "Throws IllegalArgumentException if nights is not 1 to 20" */
    private static void adviseRefusesNights() {
        StakeWeirs x = busy();
        CHECK.refused("advise(0, 0)", Check.ARGUMENT, x, () -> x.advise(0, 0));
        CHECK.refused("advise(0, -1)", Check.ARGUMENT, x, () -> x.advise(0, -1));
        CHECK.refused("advise(5, 21)", Check.ARGUMENT, x, () -> x.advise(5, 21));
        for (int nights : Estuaries.EXTREMES) {
            CHECK.refused("advise(0, " + nights + ")", Check.ARGUMENT, x,
                    () -> x.advise(0, nights));
        }
        CHECK.refused("advise(3, 0) of an open one", Check.ARGUMENT, x, () -> x.advise(3, 0));
        CHECK.refused("advise(3, 21) of an open one", Check.ARGUMENT, x, () -> x.advise(3, 21));
        StakeWeirs forfeit = Estuaries.withForfeit();
        CHECK.refused("advise(0, 0) of a forfeit one", Check.ARGUMENT, forfeit,
                () -> forfeit.advise(0, 0));
        CHECK.refused("advise(0, 21) of a forfeit one", Check.ARGUMENT, forfeit,
                () -> forfeit.advise(0, 21));
    }

    /** "If several exceptions apply, the one that is named first is thrown.", of advise */
    private static void adviseThrowsForTheWeirFirst() {
        StakeWeirs x = busy();
        CHECK.refused("advise(-1, 0)", Check.INDEX, x, () -> x.advise(-1, 0));
        CHECK.refused("advise(6, 21)", Check.INDEX, x, () -> x.advise(6, 21));
    }

    /** "nights is not 1 to 20": these are. */
    private static void adviseTakesItsLeastAndItsMost() {
        StakeWeirs x = new StakeWeirs();
        x.weir(7, 7, 0);
        CHECK.due("advise(0, 1)", 30, x.advise(0, 1));
        Estuaries.setTable(x, 0);
        x.setRun(5, 1);
        CHECK.due("advise(0, 19): 2 * 18 * 87 / 3000 is 1, in the night 5", 18, x.advise(0, 19));
        CHECK.due("advise(0, 20): 2 * 28 * 55 / 3000 is 1, in the night 19", 28,
                x.advise(0, 20));
    }

    /** "of a weir that is open or forfeit it is 1" */
    private static void adviseIsOneForOpenAndForfeit() {
        StakeWeirs x = Estuaries.withForfeit();
        x.weir(7, 7, 0);
        CHECK.due("advise(0, 1) of a forfeit one", 1, x.advise(0, 1));
        CHECK.due("advise(0, 20) of a forfeit one", 1, x.advise(0, 20));
        CHECK.due("advise(1, 1) of a shut one", 30, x.advise(1, 1));
        x.gate(1);
        CHECK.due("advise(1, 1) of an open one", 1, x.advise(1, 1));
        CHECK.due("advise(1, 20) of an open one", 1, x.advise(1, 20));
    }

    /** "of several the least" */
    private static void adviseIsTheLeastOfSeveral() {
        StakeWeirs still = new StakeWeirs();
        Estuaries.setTable(still, 0);
        still.weir(7, 30, 0);
        CHECK.due("advise(0, 20) without eels", 1, still.advise(0, 20));
        StakeWeirs bare = Estuaries.withoutWattle();
        bare.sell(0);
        CHECK.due("advise(0, 20) without wattle", 1, bare.advise(0, 20));
        StakeWeirs full = Estuaries.withoutWattle();
        full.mend(0, 100);
        CHECK.due("advise(0, 20) of a full one", 1, full.advise(0, 20));
        StakeWeirs below = new StakeWeirs();
        below.weir(7, 30, 0);
        below.weir(8, 30, 0);
        CHECK.due("advise(0, 1) below one that takes all", 1, below.advise(0, 1));
        int[][] runs = {{99, 21}, {67, 30}, {66, 30}, {1, 30}};
        for (int[] run : runs) {
            StakeWeirs x = new StakeWeirs();
            x.weir(7, 7, 0);
            x.setRun(0, run[0]);
            CHECK.due("advise(0, 1) of a run of 3 * " + run[0], run[1], x.advise(0, 1));
        }
    }

    /** "Returns this, 1 to 30" */
    private static void adviseIsFromOneToThirty() {
        int[][] runs = {{0, 1}, {1, 10}, {2, 10}, {3, 20}, {99, 30}};
        for (int[] run : runs) {
            StakeWeirs x = new StakeWeirs();
            Estuaries.passTo(x, 52);
            x.weir(7, 7, 0);
            Estuaries.setTable(x, 0);
            x.setRun(53 % 7, run[0]);
            int caught = 0;
            int want = 1;
            for (int stakes = 1; stakes <= 30; stakes++) {
                int eels = Math.min(200, 3 * run[0] * stakes * 99 / 3000);
                want = eels > caught ? stakes : want;
                caught = Math.max(eels, caught);
            }
            CHECK.due("advise(0, 2) of a run of 3 * " + run[0], want, x.advise(0, 2));
        }
    }

    /** A weir (2 stakes) that owes two rents, in the night 41, with coins for just one. */
    private static StakeWeirs withJustTheThirdRent() {
        StakeWeirs x = new StakeWeirs();
        Estuaries.setTable(x, 0);
        x.weir(0, 2, 21);
        Estuaries.passTo(x, 38);
        x.setRun(38 % 7, 99);
        x.pass(1);
        x.setRun(38 % 7, 0);
        CHECK.due("sell(0) of 1 by a full moon", 1, x.sell(0));
        Estuaries.passTo(x, 41);
        x.setRun(41 % 7, 30);
        CHECK.due("rents that it owes", 2, x.about(0, 7));
        CHECK.due("coins, as many as the rent", 21, x.about(0, 4));
        CHECK.due("wattle", 13, x.about(0, 2));
        return x;
    }

    /** "instead of those that it has, at no cost" */
    private static void adviseIsAtNoCost() {
        StakeWeirs x = Estuaries.withCoins(0);
        CHECK.due("advise(0, 1) without coins", 30, x.advise(0, 1));
        CHECK.due("stakes as before", 30, x.about(0, 1));
        StakeWeirs rented = withJustTheThirdRent();
        CHECK.due("advise(0, 1) with a rent of all coins: 30 * 24 * 13 / 3000 is 3", 24,
                rented.advise(0, 1));
        CHECK.due("stakes as before", 2, rented.about(0, 1));
        CHECK.due("coins as before", 21, rented.about(0, 4));
        StakeWeirs broken = new StakeWeirs();
        broken.weir(0, 30, 0);
        broken.barge(20);
        broken.pass(1);
        CHECK.due("stakes of a broken one", 10, broken.about(0, 1));
        CHECK.due("advise(0, 1) of more than it has", 30, broken.advise(0, 1));
    }

    /** "the most eels behind so many nights, with those that it has now" */
    private static void adviseIsWithTheEelsThatItHas() {
        StakeWeirs x = new StakeWeirs();
        x.weir(7, 30, 0);
        x.setRun(0, 66);
        x.pass(1);
        CHECK.due("eels", 198, x.about(0, 5));
        CHECK.due("advise(0, 1): 90 * 1 * 97 / 3000 is 2", 1, x.advise(0, 1));
        x.setRun(1, 10);
        CHECK.due("advise(0, 1): 30 * 3 * 97 / 3000 is 2", 3, x.advise(0, 1));
        x.sell(0);
        CHECK.due("advise(0, 1) when they are sold", 30, x.advise(0, 1));
    }

    /** "how many stakes a weir had best have", with barges on their way */
    private static void adviseKnowsBarges() {
        for (int wide = 1; wide <= 20; wide++) {
            StakeWeirs x = new StakeWeirs();
            x.weir(0, 5, 0);
            x.setRun(0, 0);
            x.barge(wide);
            CHECK.due("advise(0, 2) with a width of " + wide, bestOfTwoNights(wide),
                    x.advise(0, 2));
            CHECK.due("advise(0, 1), that is without eels", 1, x.advise(0, 1));
        }
    }

    /** A night without eels, in which the barge comes, then one of 90, counted plainly. */
    private static int bestOfTwoNights(int wide) {
        int best = 1;
        int most = 0;
        for (int stakes = 1; stakes <= 30; stakes++) {
            boolean broken = stakes > 30 - wide;
            int eels = 90 * (broken ? 30 - wide : stakes) * (broken ? 77 : 97) / 3000;
            best = eels > most ? stakes : best;
            most = Math.max(eels, most);
        }
        return best;
    }

    /** A fine leaves too few coins for the third rent; up to 20 are not in the way of 10. */
    private static void adviseKnowsThatAFineCanForfeit() {
        StakeWeirs x = withJustTheThirdRent();
        CHECK.due("advise(0, 1): 30 * 24 * 13 / 3000 is 3", 24, x.advise(0, 1));
        x.barge(10);
        CHECK.due("advise(0, 1): 30 * 16 * 13 / 3000 is 2", 16, x.advise(0, 1));
    }

    /** "the most eels behind so many nights", when they will be gone with any stakes */
    private static void adviseKnowsThatAllIsForfeit() {
        StakeWeirs x = new StakeWeirs();
        Estuaries.setTable(x, 0);
        x.weir(7, 7, 21);
        Estuaries.passTo(x, 40);
        x.setRun(40 % 7, 99);
        CHECK.due("advise(0, 1) in the night before: 99 * 29 * 16 / 3000 is 15", 29,
                x.advise(0, 1));
        CHECK.due("advise(0, 2) with the night of the third rent", 1, x.advise(0, 2));
        CHECK.due("advise(0, 20) with the night of the third rent", 1, x.advise(0, 20));
    }

    /** "(nothing is changed)", of catches, arrives, lasts, foresee and advise */
    private static void nothingIsChanged() {
        StakeWeirs x = busy();
        StakeWeirs twin = busy();
        for (int weir = 0; weir < 6; weir++) {
            int w = weir;
            CHECK.unchanged("catches(" + w + ")", x, () -> x.catches(w));
            CHECK.unchanged("lasts(" + w + ")", x, () -> x.lasts(w));
            CHECK.unchanged("advise(" + w + ", 1)", x, () -> x.advise(w, 1));
            CHECK.unchanged("advise(" + w + ", 20)", x, () -> x.advise(w, 20));
        }
        for (int barge = 0; barge < x.count(5); barge++) {
            int b = barge;
            CHECK.unchanged("arrives(" + b + ")", x, () -> x.arrives(b));
        }
        for (int what : FORESEEN) {
            CHECK.unchanged("foresee(1, " + what + ")", x, () -> x.foresee(1, what));
            CHECK.unchanged("foresee(56, " + what + ")", x, () -> x.foresee(56, what));
        }
        for (int night = 0; night < 60; night++) {
            CHECK.due("pass(1) of one that was asked", twin.pass(1), x.pass(1));
            CHECK.due("digest() of one that was asked", twin.digest(), x.digest());
        }
    }
}
