/** Promise 14: pass, with the five steps of a night. */
final class NightsTest {
    private static final Check CHECK = new Check();

    public static void main(String[] args) {
        eelsComeFromTheGreatestPlaceToTheLeast();
        eelsComeByPlacesHoweverWeirsAreMade();
        eelsThatFindNoRoomRunOn();
        openWeirsCatchNothing();
        bargesGoFivePlaces();
        bargeStandsWhereItBreaksThrough();
        bargesGoByNumbers();
        brokenWeirPaysWhatItHas();
        bargesArriveAtTheLastPlace();
        wattleRotsByTheMoon();
        rentsArePaidEveryFourteenthNight();
        rentPaidLateSettlesAll();
        thirdRentOwedForfeits();
        passRefuses();
        CHECK.end();
    }

    private static void eelsComeFromTheGreatestPlaceToTheLeast() {
        StakeWeirs x = new StakeWeirs();
        x.weir(5, 15, 0);
        x.weir(9, 15, 0);
        x.weir(9, 10, 0);
        x.weir(7, 30, 0);
        x.setRun(0, 31);
        x.pass(1);
        CHECK.due("eels of the first at the greatest place", 46, x.about(1, 5));
        CHECK.due("eels of the second there", 15, x.about(2, 5));
        CHECK.due("eels of the next place", 32, x.about(3, 5));
        CHECK.due("eels of the least place", 0, x.about(0, 5));
        x.pass(1);
        CHECK.due("eels by less wattle (90 * 15 * 97 / 3000)", 46 + 43, x.about(1, 5));
    }

    private static void eelsComeByPlacesHoweverWeirsAreMade() {
        StakeWeirs x = new StakeWeirs();
        int[] places = {3, 1, 4, 2, 39, 0};
        int[] want = {7, 2, 15, 4, 30, 1};
        for (int place : places) {
            x.weir(place, 15, 0);
        }
        x.setRun(0, 20);
        x.pass(1);
        for (int i = 0; i < places.length; i++) {
            CHECK.due("eels at the place " + places[i], want[i], x.about(i, 5));
        }
    }

    private static void eelsThatFindNoRoomRunOn() {
        StakeWeirs x = new StakeWeirs();
        x.weir(5, 30, 0);
        x.weir(9, 30, 0);
        x.setRun(0, 99);
        x.pass(1);
        CHECK.due("eels of the upper one", 200, x.about(1, 5));
        CHECK.due("eels of the lower one", 97, x.about(0, 5));
        x.pass(1);
        CHECK.due("the upper one stays full", 200, x.about(1, 5));
        CHECK.due("the lower one gets all (90 * 97 / 100)", 97 + 87, x.about(0, 5));
    }

    private static void openWeirsCatchNothing() {
        StakeWeirs x = new StakeWeirs();
        x.weir(5, 30, 0);
        x.weir(9, 30, 0);
        x.gate(1);
        x.pass(1);
        CHECK.due("eels of the open one", 0, x.about(1, 5));
        CHECK.due("eels of the shut one", 90, x.about(0, 5));
        CHECK.due("wattle of the open one", 97, x.about(1, 2));
    }

    private static void bargesGoFivePlaces() {
        StakeWeirs x = new StakeWeirs();
        x.weir(10, 15, 0);
        x.barge(15);
        for (int night = 1; night <= 7; night++) {
            CHECK.due("pass(1)", 0, x.pass(1));
            CHECK.due("place behind " + night + " nights", 5 * night - 1, x.told(0, 1));
        }
        CHECK.due("pass(1) to the last place", 1, x.pass(1));
        CHECK.due("stakes of a weir that was not in its way", 15, x.about(0, 1));
    }

    private static void bargeStandsWhereItBreaksThrough() {
        StakeWeirs x = new StakeWeirs();
        x.weir(4, 16, 0);
        x.weir(4, 15, 0);
        x.weir(4, 30, 0);
        x.weir(6, 16, 0);
        x.barge(15);
        x.pass(1);
        CHECK.due("place of the first break", 4, x.told(0, 1));
        CHECK.due("weirs that it broke through", 2, x.told(0, 2));
        int[][] want = {{15, 77, 17}, {15, 97, 20}, {15, 77, 17}, {16, 97, 20}};
        for (int i = 0; i < want.length; i++) {
            CHECK.due("stakes of " + i, want[i][0], x.about(i, 1));
            CHECK.due("wattle of " + i, want[i][1], x.about(i, 2));
            CHECK.due("coins of " + i, want[i][2], x.about(i, 4));
        }
        CHECK.due("fines", 6, x.count(7));
        x.pass(1);
        CHECK.due("place of the next break", 6, x.told(0, 1));
        CHECK.due("weirs that it broke through in all", 3, x.told(0, 2));
        x.pass(1);
        CHECK.due("place behind it", 11, x.told(0, 1));
    }

    private static void bargesGoByNumbers() {
        StakeWeirs x = new StakeWeirs();
        x.weir(0, 30, 0);
        x.barge(10);
        x.barge(10);
        x.barge(11);
        x.pass(1);
        CHECK.due("place of the one that breaks through", 0, x.told(0, 1));
        CHECK.due("place of the one behind it", 4, x.told(1, 1));
        CHECK.due("place of a wider one", 0, x.told(2, 1));
        CHECK.due("stakes", 19, x.about(0, 1));
        CHECK.due("wattle", 57, x.about(0, 2));
        CHECK.due("coins", 14, x.about(0, 4));
    }

    private static void brokenWeirPaysWhatItHas() {
        StakeWeirs x = new StakeWeirs();
        x.weir(2, 20, 0);
        x.drive(0, 9);
        for (int wide = 2; wide <= 6; wide++) {
            x.barge(wide);
        }
        x.pass(1);
        CHECK.due("coins", 0, x.about(0, 4));
        CHECK.due("fines", 2, x.count(7));
        CHECK.due("wattle", 0, x.about(0, 2));
        CHECK.due("stakes", 24, x.about(0, 1));
    }

    private static void bargesArriveAtTheLastPlace() {
        StakeWeirs x = new StakeWeirs();
        x.weir(39, 30, 0);
        x.weir(0, 30, 0);
        x.barge(20);
        x.barge(1);
        x.barge(2);
        CHECK.due("pass(7)", 0, x.pass(7));
        CHECK.due("place of the first", 30, x.told(0, 1));
        CHECK.due("pass(1) with two that arrive", 2, x.pass(1));
        CHECK.due("arrived in all", 2, x.count(6));
        CHECK.due("under way", 1, x.count(5));
        CHECK.due("the first is the one that is left", 20, x.told(0, 0));
        CHECK.due("its place", 35, x.told(0, 1));
        CHECK.due("stakes at the last place", 28, x.about(0, 1));
        CHECK.due("pass(1) through the last place", 1, x.pass(1));
        CHECK.due("stakes at the last place then", 10, x.about(0, 1));
    }

    private static void wattleRotsByTheMoon() {
        StakeWeirs x = new StakeWeirs();
        x.weir(3, 3, 0);
        String moons = "000011111122222222211111100000001111112222";
        int wattle = 100;
        for (int night = 0; night < moons.length(); night++) {
            x.pass(1);
            wattle = Math.max(0, wattle - (moons.charAt(night) == '1' ? 1 : 3));
            CHECK.due("wattle behind the night " + night, wattle, x.about(0, 2));
        }
        x.pass(60);
        CHECK.due("wattle at last", 0, x.about(0, 2));
    }

    private static void rentsArePaidEveryFourteenthNight() {
        StakeWeirs x = new StakeWeirs();
        x.weir(3, 3, 10);
        x.weir(3, 3, 0);
        x.pass(13);
        CHECK.due("rents before the night 13", 0, x.count(8));
        x.pass(1);
        CHECK.due("rents behind the night 13", 10, x.count(8));
        CHECK.due("coins", 10, x.about(0, 4));
        x.pass(14);
        CHECK.due("rent of just as many coins", 0, x.about(0, 4));
        CHECK.due("rents behind the night 27", 20, x.count(8));
        CHECK.due("rents that it owes", 0, x.about(0, 7));
        x.pass(14);
        CHECK.due("rents that it owes without coins", 1, x.about(0, 7));
        CHECK.due("rents that one without a rent owes", 0, x.about(1, 7));
        CHECK.due("rents behind the night 41", 20, x.count(8));
    }

    private static void rentPaidLateSettlesAll() {
        StakeWeirs x = new StakeWeirs();
        x.weir(3, 30, 40);
        x.pass(28);
        CHECK.due("rents that it owes", 2, x.about(0, 7));
        CHECK.due("coins that it keeps", 20, x.about(0, 4));
        CHECK.due("sell(0)", 100, x.sell(0));
        x.pass(14);
        CHECK.due("rents that it owes then", 0, x.about(0, 7));
        CHECK.due("coins then", 80, x.about(0, 4));
    }

    private static void thirdRentOwedForfeits() {
        StakeWeirs x = new StakeWeirs();
        x.weir(3, 30, 21);
        x.pass(41);
        CHECK.due("eels before", 200, x.about(0, 5));
        x.pass(1);
        int[] want = {3, 30, 10, 21, 20, 0, 0, 3};
        x.barge(20);
        x.pass(14);
        for (int what = 0; what < want.length; what++) {
            CHECK.due("forfeit: about(0, " + what + ")", want[what], x.about(0, what));
        }
        CHECK.due("weirs", 1, x.count(3));
        CHECK.due("weirs that are held", 0, x.count(4));
        CHECK.due("barges that arrived", 1, x.count(6));
        CHECK.due("fines", 0, x.count(7));
    }

    private static void passRefuses() {
        StakeWeirs x = new StakeWeirs();
        CHECK.refused("pass(0)", Check.ARGUMENT, x, () -> x.pass(0));
        CHECK.refused("pass(61)", Check.ARGUMENT, x, () -> x.pass(61));
        CHECK.refused("pass(-1)", Check.ARGUMENT, x, () -> x.pass(-1));
        CHECK.due("pass(60)", 0, x.pass(60));
        CHECK.due("night behind it", 60, x.count(0));
    }
}
