/** The edges of the five steps of a night, and of promise 14: pass. */
final class EdgesOfNightsTest {
    private static final Check CHECK = new Check();

    public static void main(String[] args) {
        catchIsCut();
        nothingIsCaughtOfNoRun();
        nothingIsCaughtWithoutWattle();
        nothingIsLeftBehindAWholeWeir();
        whatIsLeftComesToTheNext();
        atOnePlaceTheSmallerNumberIsFirst();
        theGreatestPlaceIsFirst();
        aWeirIsFilledToJustTwoHundred();
        whatFindsNoRoomRunsOn();
        openAndForfeitWeirsCatchNothing();
        eelsAreBeforeTheBarges();
        aBargeGoesUpToFivePlaces();
        aBargeStandsWhereItBreaksThrough();
        aBargeGoesNoFurtherThanTheLastPlace();
        aBargeBreaksThroughAtTheLastPlaceAndHasArrived();
        aWeirAtItsOwnPlaceIsNotComeTo();
        aWeirBehindABargeIsLeftAlone();
        anEarlierBargeMakesWayForALaterOne();
        eachWeirOfAPlaceIsBroken();
        brokenStakesAreFromTheWidth();
        brokenWattleIsAtLeastNone();
        aFineIsOfWhatItHasIfItHasLess();
        arrivedIsBehindTheGoingOfAll();
        wattleIsAtLeastNone();
        heldWeirsRotAndForfeitOnesDoNot();
        rentIsPaidInJustTheLastOfFourteenNights();
        rentIsPaidOfJustAsManyCoins();
        rentOfNothingIsAlwaysPaid();
        rentIsBehindTheFine();
        rentPaidOwesNothing();
        theThirdRentTakesTheEelsAndNothingElse();
        eelsOfTheNightItselfAreGoneToo();
        nightIsOneGreater();
        passIsOfOneToSixtyNights();
        passAnswersThoseThatArriveInThem();
        CHECK.end();
    }

    /** "it catches run * stakes * wattle / 3000 eels", "/ is cut towards 0" */
    private static void catchIsCut() {
        int[][] caught = {{1, 29, 0}, {1, 30, 1}, {2, 29, 1}, {2, 30, 2}, {99, 1, 3}, {90, 1, 3},
            {89, 1, 2}, {29, 1, 0}, {30, 1, 1}, {0, 30, 0}};
        for (int[] c : caught) {
            StakeWeirs x = new StakeWeirs();
            Estuaries.passTo(x, 10);
            x.setRun(10 % 7, c[0]);
            x.weir(5, c[1], 0);
            String call = " of a run of " + c[0] + " with " + c[1] + " stakes";
            CHECK.due("catches(0)" + call, c[2], x.catches(0));
            x.pass(1);
            CHECK.due("eels" + call, c[2], x.about(0, 5));
        }
    }

    /** "it catches run * stakes * wattle / 3000 eels", with a run of 0 */
    private static void nothingIsCaughtOfNoRun() {
        StakeWeirs x = new StakeWeirs();
        Estuaries.setTable(x, 0);
        x.weir(5, 30, 0);
        x.pass(30);
        CHECK.due("eels of no run", 0, x.about(0, 5));
    }

    /** "it catches run * stakes * wattle / 3000 eels", with a wattle of 0 */
    private static void nothingIsCaughtWithoutWattle() {
        StakeWeirs x = Estuaries.withoutWattle();
        x.sell(0);
        CHECK.due("catches(0) without wattle", 0, x.catches(0));
        x.pass(28);
        CHECK.due("eels without wattle", 0, x.about(0, 5));
        x.mend(0, 5);
        Estuaries.passTo(x, 75);
        x.mend(0, 20);
        CHECK.due("wattle", 22, x.about(0, 2));
        CHECK.due("catches(0) with wattle again (60 * 22 / 100)", 13, x.catches(0));
    }

    /** "with what is left of the run there", with nothing left */
    private static void nothingIsLeftBehindAWholeWeir() {
        StakeWeirs x = new StakeWeirs();
        x.weir(9, 30, 0);
        x.weir(9, 30, 0);
        x.weir(8, 30, 0);
        x.pass(1);
        CHECK.due("eels of the first", 90, x.about(0, 5));
        CHECK.due("eels of the second there", 0, x.about(1, 5));
        CHECK.due("eels of the next place", 0, x.about(2, 5));
    }

    /** "with what is left of the run there", "the run is less by these then" */
    private static void whatIsLeftComesToTheNext() {
        StakeWeirs x = new StakeWeirs();
        x.weir(2, 30, 0);
        x.weir(9, 29, 0);
        x.setRun(0, 1);
        x.pass(1);
        CHECK.due("eels of the upper one (3 * 29 / 30)", 2, x.about(1, 5));
        CHECK.due("eels of the lower one", 1, x.about(0, 5));
    }

    /** "at one place by numbers" */
    private static void atOnePlaceTheSmallerNumberIsFirst() {
        StakeWeirs x = new StakeWeirs();
        for (int i = 0; i < 6; i++) {
            x.weir(0, 15, 0);
        }
        int[] want = {45, 22, 11, 6, 3, 1};
        x.pass(1);
        for (int i = 0; i < 6; i++) {
            CHECK.due("eels of " + i, want[i], x.about(i, 5));
        }
    }

    /** "from the greatest place to the least" */
    private static void theGreatestPlaceIsFirst() {
        int[][] places = {{0, 1, 2, 37, 38, 39}, {39, 38, 37, 2, 1, 0}, {38, 0, 39, 2, 1, 37}};
        int[] want = {45, 22, 11, 6, 3, 1};
        for (int[] made : places) {
            StakeWeirs x = new StakeWeirs();
            for (int place : made) {
                x.weir(place, 15, 0);
            }
            x.pass(1);
            for (int i = 0; i < 6; i++) {
                int before = 0;
                for (int place : made) {
                    before += place > made[i] ? 1 : 0;
                }
                CHECK.due("eels at the place " + made[i], want[before], x.about(i, 5));
            }
        }
    }

    /** "but at most so many that it has 200": the upper weir has 198, the lower one none. */
    private static StakeWeirs nearlyFull(int eels) {
        StakeWeirs x = new StakeWeirs();
        x.weir(9, 30, 0);
        x.weir(2, 30, 0);
        x.setRun(0, 66);
        x.setRun(1, eels);
        x.pass(1);
        CHECK.due("eels of the first night", 198, x.about(0, 5));
        return x;
    }

    /** "but at most so many that it has 200" */
    private static void aWeirIsFilledToJustTwoHundred() {
        StakeWeirs x = nearlyFull(1);
        CHECK.due("catches(0) of just as many as there is room for", 2, x.catches(0));
        x.pass(1);
        CHECK.due("eels", 200, x.about(0, 5));
        CHECK.due("eels of the lower one (1 * 97 / 100)", 0, x.about(1, 5));
        StakeWeirs y = nearlyFull(2);
        CHECK.due("catches(0) of more than there is room for", 2, y.catches(0));
        y.pass(1);
        CHECK.due("eels of y", 200, y.about(0, 5));
        CHECK.due("catches(0) when it is full", 0, y.catches(0));
        y.sell(0);
        CHECK.due("catches(0) when it is sold (90 * 94 / 100)", 84, y.catches(0));
    }

    /** "(what does not find room runs on)" */
    private static void whatFindsNoRoomRunsOn() {
        StakeWeirs x = nearlyFull(2);
        CHECK.due("catches(1) of four that find no room (4 * 97 / 100)", 3, x.catches(1));
        x.pass(1);
        CHECK.due("eels of the lower one", 3, x.about(1, 5));
        CHECK.due("catches(1) below a full one (90 * 94 / 100)", 84, x.catches(1));
    }

    /** "Weirs that are held, and whose gates are shut" */
    private static void openAndForfeitWeirsCatchNothing() {
        StakeWeirs x = Estuaries.withForfeit();
        x.weir(39, 30, 0);
        x.weir(38, 15, 0);
        x.gate(1);
        x.pass(1);
        CHECK.due("eels of the forfeit one", 0, x.about(0, 5));
        CHECK.due("eels of the open one", 0, x.about(1, 5));
        CHECK.due("eels of the shut one", 15, x.about(2, 5));
    }

    /** The eels are of step 1, the barges of step 2, the wattle's rotting of step 3. */
    private static void eelsAreBeforeTheBarges() {
        StakeWeirs x = new StakeWeirs();
        x.weir(0, 30, 0);
        x.barge(20);
        CHECK.due("catches(0) of 30 stakes and 100 wattle", 90, x.catches(0));
        x.pass(1);
        CHECK.due("eels of the night in which it is broken", 90, x.about(0, 5));
        CHECK.due("stakes then", 10, x.about(0, 1));
        CHECK.due("catches(0) of 10 stakes and 77 wattle", 23, x.catches(0));
        x.pass(1);
        CHECK.due("eels of the next night", 113, x.about(0, 5));
    }

    /** "each goes on by up to 5 places, place after place" */
    private static void aBargeGoesUpToFivePlaces() {
        StakeWeirs x = new StakeWeirs();
        x.weir(4, 30, 0);
        x.barge(5);
        x.pass(1);
        CHECK.due("the fifth place is come to: broken", 1, x.told(0, 2));
        CHECK.due("the fifth place is come to: place", 4, x.told(0, 1));
        StakeWeirs y = new StakeWeirs();
        y.weir(5, 30, 0);
        y.barge(5);
        y.pass(1);
        CHECK.due("the sixth place is not come to: broken", 0, y.told(0, 2));
        CHECK.due("the sixth place is not come to: place", 4, y.told(0, 1));
        CHECK.due("the sixth place is not come to: stakes", 30, y.about(0, 1));
        y.pass(1);
        CHECK.due("the sixth place in the next night: broken", 1, y.told(0, 2));
        CHECK.due("the sixth place in the next night: place", 5, y.told(0, 1));
    }

    /** "stands at that place then, and goes no further in this night" */
    private static void aBargeStandsWhereItBreaksThrough() {
        StakeWeirs x = new StakeWeirs();
        for (int place = 0; place < 6; place++) {
            x.weir(place, 30, 0);
        }
        x.barge(5);
        for (int place = 0; place < 6; place++) {
            CHECK.due("next in its way", place, x.told(0, 3));
            x.pass(1);
            CHECK.due("place", place, x.told(0, 1));
            CHECK.due("broken", place + 1, x.told(0, 2));
        }
        x.pass(1);
        CHECK.due("place behind all of them", 10, x.told(0, 1));
    }

    /** "at most to the place 39" */
    private static void aBargeGoesNoFurtherThanTheLastPlace() {
        for (int place = 34; place <= 38; place++) {
            StakeWeirs x = new StakeWeirs();
            x.weir(place, 30, 0);
            x.barge(5);
            int nights = place == 34 ? 7 : 8;
            CHECK.due("pass to the place " + place, 0, x.pass(nights));
            CHECK.due("place", place, x.told(0, 1));
            CHECK.due("under way at " + place, 1, x.count(5));
            CHECK.due("pass(1) from the place " + place, 1, x.pass(1));
            CHECK.due("under way", 0, x.count(5));
            CHECK.due("arrived", 1, x.count(6));
        }
    }

    /** "Barges that come to 39 have arrived", with something in their way there */
    private static void aBargeBreaksThroughAtTheLastPlaceAndHasArrived() {
        StakeWeirs x = new StakeWeirs();
        x.weir(39, 30, 0);
        x.barge(5);
        x.pass(7);
        CHECK.due("next in its way from 34", 0, x.told(0, 3));
        CHECK.due("pass(1)", 1, x.pass(1));
        CHECK.due("under way", 0, x.count(5));
        CHECK.due("stakes", 25, x.about(0, 1));
        CHECK.due("fines", 3, x.count(7));
        for (int place = 35; place <= 38; place++) {
            StakeWeirs near = new StakeWeirs();
            near.weir(place, 30, 0);
            near.weir(39, 30, 0);
            near.barge(5);
            near.pass(8);
            CHECK.due("place before the last night", place, near.told(0, 1));
            CHECK.due("pass(1) from " + place, 1, near.pass(1));
            CHECK.due("stakes at 39 behind one from " + place, 25, near.about(1, 1));
            CHECK.due("fines behind one from " + place, 6, near.count(7));
        }
    }

    /** "if there is something in its way at a place that it comes to" */
    private static void aWeirAtItsOwnPlaceIsNotComeTo() {
        StakeWeirs x = new StakeWeirs();
        x.barge(5);
        x.pass(1);
        x.weir(4, 30, 0);
        CHECK.due("it hinders one of its width", 1, x.hinders(5));
        CHECK.due("next in its way", -1, x.told(0, 3));
        x.pass(1);
        CHECK.due("place", 9, x.told(0, 1));
        CHECK.due("broken", 0, x.told(0, 2));
        CHECK.due("stakes", 30, x.about(0, 1));
        CHECK.due("fines", 0, x.count(7));
    }

    /** "if there is something in its way at a place that it comes to" */
    private static void aWeirBehindABargeIsLeftAlone() {
        StakeWeirs x = new StakeWeirs();
        x.weir(30, 30, 0);
        x.barge(5);
        x.pass(7);
        x.weir(29, 30, 0);
        x.weir(31, 30, 0);
        x.drive(0, 5);
        CHECK.due("place", 30, x.told(0, 1));
        CHECK.due("next in its way", 2, x.told(0, 3));
        x.pass(1);
        CHECK.due("stakes at its own place", 30, x.about(0, 1));
        CHECK.due("stakes behind it", 30, x.about(1, 1));
        CHECK.due("stakes before it", 25, x.about(2, 1));
    }

    /** "Barges, by numbers" */
    private static void anEarlierBargeMakesWayForALaterOne() {
        int[][] widths = {{10, 10, 0, 4}, {10, 9, 0, 4}, {10, 11, 0, 0}, {1, 20, 0, 0}};
        for (int[] w : widths) {
            StakeWeirs x = new StakeWeirs();
            x.weir(0, 30, 0);
            x.barge(w[0]);
            x.barge(w[1]);
            x.pass(1);
            String call = " of " + w[0] + " before " + w[1];
            CHECK.due("place of the first" + call, w[2], x.told(0, 1));
            CHECK.due("place of the second" + call, w[3], x.told(1, 1));
            CHECK.due("stakes" + call, 30 - Math.max(w[0], w[1]), x.about(0, 1));
        }
    }

    /** "Each weir (by numbers) that is in its way there" */
    private static void eachWeirOfAPlaceIsBroken() {
        StakeWeirs x = new StakeWeirs();
        int[] stakes = {30, 26, 25, 24, 1, 30};
        int[] want = {25, 25, 25, 24, 1, 25};
        int[] coins = {17, 17, 20, 20, 20, 17};
        int[] wattle = {77, 77, 97, 97, 97, 77};
        for (int s : stakes) {
            x.weir(2, s, 0);
        }
        x.barge(5);
        x.pass(1);
        for (int i = 0; i < 6; i++) {
            CHECK.due("stakes of " + i, want[i], x.about(i, 1));
            CHECK.due("coins of " + i, coins[i], x.about(i, 4));
            CHECK.due("wattle of " + i, wattle[i], x.about(i, 2));
        }
        CHECK.due("broken: each one of a place counts", 3, x.told(0, 2));
        CHECK.due("fines", 9, x.count(7));
    }

    /** "has stakes of just 30 less the width then" */
    private static void brokenStakesAreFromTheWidth() {
        int[][] stakes = {{1, 30, 29}, {20, 30, 10}, {20, 11, 10}, {10, 21, 20}};
        for (int[] s : stakes) {
            StakeWeirs x = new StakeWeirs();
            x.weir(2, s[1], 0);
            x.barge(s[0]);
            x.pass(1);
            CHECK.due("of " + s[1] + " by a width of " + s[0], s[2], x.about(0, 1));
        }
    }

    /** "20 less wattle (at least 0)" */
    private static void brokenWattleIsAtLeastNone() {
        int[][] wattle = {{100, 77}, {30, 7}, {23, 0}, {21, 0}, {20, 0}, {19, 0}, {1, 0}, {0, 0}};
        for (int[] w : wattle) {
            StakeWeirs x = Estuaries.withoutWattle();
            Estuaries.passTo(x, 56);
            if (w[0] > 0) {
                x.mend(0, w[0]);
            }
            x.barge(20);
            x.pass(1);
            CHECK.due("wattle of " + w[0] + ", broken by a dark moon", w[1], x.about(0, 2));
            CHECK.due("stakes of it", 10, x.about(0, 1));
        }
        StakeWeirs five = new StakeWeirs();
        five.weir(0, 30, 0);
        five.pass(1);
        for (int wide = 1; wide <= 5; wide++) {
            five.barge(wide);
        }
        five.pass(1);
        CHECK.due("wattle of 97, broken five times", 0, five.about(0, 2));
    }

    /** "pays a fine of 3 coins (what it has, if it has less)" */
    private static void aFineIsOfWhatItHasIfItHasLess() {
        int[][] fines = {{20, 3}, {4, 3}, {3, 3}, {2, 2}, {1, 1}, {0, 0}};
        for (int[] f : fines) {
            StakeWeirs x = Estuaries.withCoins(f[0]);
            CHECK.due("coins", f[0], x.about(0, 4));
            x.barge(20);
            x.pass(1);
            CHECK.due("fine of one that has " + f[0], f[1], x.count(7));
            CHECK.due("coins of one that has had " + f[0], f[0] - f[1], x.about(0, 4));
            CHECK.due("stakes of one that has had " + f[0], 10, x.about(0, 1));
            CHECK.due("broken of one that has had " + f[0], 1, x.told(0, 2));
        }
    }

    /** "Barges that come to 39 have arrived, behind the going of all of them" */
    private static void arrivedIsBehindTheGoingOfAll() {
        StakeWeirs x = new StakeWeirs();
        x.barge(1);
        x.barge(2);
        x.pass(1);
        x.barge(3);
        CHECK.due("pass(7)", 2, x.pass(7));
        CHECK.due("the one behind them has gone on in the same night", 34, x.told(0, 1));
        CHECK.due("under way", 1, x.count(5));
        StakeWeirs all = new StakeWeirs();
        for (int wide = 1; wide <= 5; wide++) {
            all.barge(wide);
        }
        CHECK.due("pass(8) with five that arrive at once", 5, all.pass(8));
        CHECK.due("under way of all", 0, all.count(5));
        CHECK.due("arrived of all", 5, all.count(6));
    }

    /**
     * "Wattle of each weir that is held is less by 1 by a half moon, and by 3 by a dark or a full
     * one (at least 0)."
     */
    private static void wattleIsAtLeastNone() {
        String moons = "0000111111222222222111111000";
        for (int first = 0; first < 28; first++) {
            StakeWeirs x = new StakeWeirs();
            Estuaries.passTo(x, first);
            x.weir(7, 7, 0);
            int wattle = 100;
            for (int night = first; night < first + 60; night++) {
                x.pass(1);
                wattle -= moons.charAt(night % 28) == '1' ? 1 : 3;
                wattle = wattle < 0 ? 0 : wattle;
                CHECK.due("wattle from " + first + " behind " + night, wattle, x.about(0, 2));
            }
        }
    }

    /** "Wattle of each weir that is held" */
    private static void heldWeirsRotAndForfeitOnesDoNot() {
        StakeWeirs x = Estuaries.withForfeit();
        int forfeit = x.about(0, 2);
        CHECK.due("wattle of the forfeit one, the last night of it counted", 10, forfeit);
        x.weir(7, 7, 0);
        x.gate(1);
        x.pass(1);
        CHECK.due("wattle of the forfeit one", forfeit, x.about(0, 2));
        CHECK.due("wattle of an open one", 97, x.about(1, 2));
    }

    /** "In nights that have the remainder 13 by 14" */
    private static void rentIsPaidInJustTheLastOfFourteenNights() {
        StakeWeirs x = new StakeWeirs();
        x.weir(7, 7, 1);
        for (int night = 0; night < 100; night++) {
            CHECK.due("rents before the night " + night, night / 14, x.count(8));
            x.pass(1);
        }
        StakeWeirs late = new StakeWeirs();
        Estuaries.passTo(late, 13);
        late.weir(7, 7, 20);
        late.pass(1);
        CHECK.due("rent of one that is made in that night", 20, late.count(8));
        late.weir(7, 7, 20);
        late.pass(13);
        CHECK.due("rent of one that is made behind it", 20, late.count(8));
    }

    /** "each weir that is held pays its rent, if it has as many coins" */
    private static void rentIsPaidOfJustAsManyCoins() {
        int[][] rents = {{19, 1, 0}, {20, 0, 0}, {21, 20, 1}, {50, 20, 1}};
        for (int[] r : rents) {
            StakeWeirs x = new StakeWeirs();
            x.weir(7, 7, r[0]);
            x.pass(14);
            CHECK.due("coins with a rent of " + r[0], r[1], x.about(0, 4));
            CHECK.due("owed with a rent of " + r[0], r[2], x.about(0, 7));
            CHECK.due("rents with a rent of " + r[0], 20 - r[1], x.count(8));
        }
    }

    /** "if it has as many coins", with a rent of 0 and no coins */
    private static void rentOfNothingIsAlwaysPaid() {
        StakeWeirs x = Estuaries.withCoins(0);
        x.pass(60);
        CHECK.due("owed", 0, x.about(0, 7));
        CHECK.due("weirs that are held", 1, x.count(4));
        CHECK.due("rents", 0, x.count(8));
    }

    /** The fine is of step 2, the rent of step 4. */
    private static void rentIsBehindTheFine() {
        int[][] rents = {{17, 0, 0}, {18, 17, 1}, {20, 17, 1}};
        for (int[] r : rents) {
            StakeWeirs x = new StakeWeirs();
            x.weir(0, 30, r[0]);
            Estuaries.passTo(x, 13);
            x.barge(1);
            x.pass(1);
            CHECK.due("fines with a rent of " + r[0], 3, x.count(7));
            CHECK.due("coins with a rent of " + r[0], r[1], x.about(0, 4));
            CHECK.due("owed with a rent of " + r[0], r[2], x.about(0, 7));
        }
    }

    /** "pays its rent (..), and owes nothing then; otherwise it pays nothing, and owes 1 more" */
    private static void rentPaidOwesNothing() {
        StakeWeirs x = new StakeWeirs();
        x.weir(7, 30, 50);
        int[] owed = {1, 2};
        for (int i = 0; i < owed.length; i++) {
            x.pass(14);
            CHECK.due("owed, the time " + i, owed[i], x.about(0, 7));
            CHECK.due("coins, the time " + i, 20, x.about(0, 4));
            CHECK.due("rents, the time " + i, 0, x.count(8));
        }
        x.sell(0);
        x.pass(14);
        CHECK.due("owed, when one rent is paid", 0, x.about(0, 7));
        CHECK.due("coins, when one rent is paid", 20 + 100 - 50, x.about(0, 4));
        CHECK.due("rents, when one rent is paid", 50, x.count(8));
    }

    /** "if that makes 3, its eels are gone, and nothing else of it changes any more." */
    private static void theThirdRentTakesTheEelsAndNothingElse() {
        StakeWeirs x = new StakeWeirs();
        x.weir(7, 29, 21);
        x.weir(7, 30, 21);
        x.gate(1);
        Estuaries.passTo(x, 41);
        CHECK.due("eels before", 200, x.about(0, 5));
        x.pass(1);
        int[] shut = {7, 29, 10, 21, 20, 0, 0, 3};
        int[] open = {7, 30, 10, 21, 20, 0, 1, 3};
        for (int turn = 0; turn < 3; turn++) {
            for (int what = 0; what < 8; what++) {
                String call = " in the night " + x.count(0);
                CHECK.due("about(0, " + what + ")" + call, shut[what], x.about(0, what));
                CHECK.due("about(1, " + what + ")" + call, open[what], x.about(1, what));
            }
            x.barge(20);
            x.pass(60);
        }
        CHECK.due("rents", 0, x.count(8));
        CHECK.due("eels of all", 0, x.count(9));
    }

    /** The eels are of step 1, the forfeit of step 4: what it takes is not left to those below. */
    private static void eelsOfTheNightItselfAreGoneToo() {
        StakeWeirs x = new StakeWeirs();
        x.weir(7, 30, 21);
        x.gate(0);
        Estuaries.passTo(x, 41);
        x.gate(0);
        x.weir(6, 30, 0);
        CHECK.due("it catches in the night that makes it forfeit (30 * 13 / 100)", 3,
                x.catches(0));
        CHECK.due("the one below it catches what is left", 27, x.catches(1));
        x.pass(1);
        CHECK.due("eels of the forfeit one", 0, x.about(0, 5));
        CHECK.due("eels of the one below it", 27, x.about(1, 5));
        CHECK.due("eels of all", 27, x.count(9));
    }

    /** "The night is 1 greater." */
    private static void nightIsOneGreater() {
        StakeWeirs x = new StakeWeirs();
        CHECK.due("night at first", 0, x.count(0));
        for (int night = 1; night <= 60; night++) {
            x.pass(1);
            CHECK.due("night", night, x.count(0));
        }
    }

    /** "Throws IllegalArgumentException if nights is not 1 to 60" */
    private static void passIsOfOneToSixtyNights() {
        StakeWeirs x = new StakeWeirs();
        x.weir(7, 7, 7);
        x.barge(7);
        CHECK.refused("pass(0)", Check.ARGUMENT, x, () -> x.pass(0));
        CHECK.refused("pass(-1)", Check.ARGUMENT, x, () -> x.pass(-1));
        CHECK.refused("pass(61)", Check.ARGUMENT, x, () -> x.pass(61));
        for (int nights : Estuaries.EXTREMES) {
            CHECK.refused("pass(" + nights + ")", Check.ARGUMENT, x, () -> x.pass(nights));
        }
        CHECK.due("pass(1)", 0, x.pass(1));
        CHECK.due("night behind pass(1)", 1, x.count(0));
        CHECK.due("pass(60)", 1, x.pass(60));
        CHECK.due("night behind pass(60)", 61, x.count(0));
        CHECK.due("pass(60) once more", 0, x.pass(60));
        CHECK.due("night behind all", 121, x.count(0));
    }

    /** "Returns how many barges arrive in them." */
    private static void passAnswersThoseThatArriveInThem() {
        StakeWeirs x = new StakeWeirs();
        CHECK.due("pass(60) without barges", 0, x.pass(60));
        x.barge(1);
        x.barge(1);
        CHECK.due("pass(7)", 0, x.pass(7));
        x.barge(1);
        CHECK.due("pass(1)", 2, x.pass(1));
        CHECK.due("pass(6)", 0, x.pass(6));
        CHECK.due("pass(1) for the third", 1, x.pass(1));
        x.barge(1);
        x.pass(3);
        x.barge(1);
        CHECK.due("pass(60) with two that arrive in nights of their own", 2, x.pass(60));
        CHECK.due("arrived in all", 5, x.count(6));
    }
}
