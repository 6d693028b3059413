/** The edges that promises 1 to 6 name: a new object, weir, gate, mend, drive, sell. */
final class EdgesOfWeirCallsTest {
    private static final Check CHECK = new Check();

    public static void main(String[] args) {
        newIsWithoutWeirsAndBarges();
        objectsAreApart();
        weirRefusesPlaces();
        weirRefusesStakes();
        weirRefusesRents();
        weirTakesItsLeastAndItsMost();
        weirRefusesASeventh();
        weirRefusesASeventhThoughOneIsForfeit();
        weirThrowsForArgumentsFirst();
        gateRefusesNoSuchWeir();
        gateRefusesForfeit();
        gateOpensWhatIsShutAndShutsWhatIsOpen();
        mendCostsAFifthRoundedUp();
        mendRefusesNoSuchWeir();
        mendRefusesMuch();
        mendRefusesForfeit();
        mendRefusesMoreThanAHundred();
        mendRefusesTooFewCoins();
        mendThrowsInItsOrder();
        driveCostsTwoEach();
        driveRefusesNoSuchWeir();
        driveRefusesStakes();
        driveRefusesForfeit();
        driveRefusesMoreThanThirty();
        driveRefusesTooFewCoins();
        driveThrowsInItsOrder();
        sellIsByTheMoonOfThisNight();
        sellIsCut();
        sellRefusesNoSuchWeir();
        sellRefusesForfeit();
        sellRefusesNoEels();
        CHECK.end();
    }

    /** "Creates an estuary without weirs and barges, in the night 0." */
    private static void newIsWithoutWeirsAndBarges() {
        StakeWeirs x = new StakeWeirs();
        CHECK.due("night", 0, x.count(0));
        CHECK.due("weirs", 0, x.count(3));
        CHECK.due("weirs that are held", 0, x.count(4));
        CHECK.due("barges under way", 0, x.count(5));
        CHECK.due("barges that have arrived", 0, x.count(6));
        CHECK.refused("about(0, 0)", Check.INDEX, x, () -> x.about(0, 0));
        CHECK.refused("told(0, 0)", Check.INDEX, x, () -> x.told(0, 0));
        CHECK.due("pass(60)", 0, x.pass(60));
        CHECK.due("eels", 0, x.count(9));
        CHECK.due("foresee(56, 9)", 0, x.foresee(56, 9));
    }

    /** Each new object is new, whatever was done to others. */
    private static void objectsAreApart() {
        StakeWeirs other = new StakeWeirs();
        other.weir(7, 7, 7);
        other.barge(7);
        other.setRun(0, 7);
        long before = other.digest();
        StakeWeirs x = new StakeWeirs();
        CHECK.due("weirs", 0, x.count(3));
        CHECK.due("run", 90, x.count(2));
        x.weir(8, 8, 8);
        x.foresee(56, 9);
        x.pass(60);
        CHECK.due("digest() of the other", before, other.digest());
    }

    private static void refusedWeir(StakeWeirs x, int place, int stakes, int rent) {
        CHECK.refused("weir(" + place + ", " + stakes + ", " + rent + ")", Check.ARGUMENT, x,
                () -> x.weir(place, stakes, rent));
    }

    /** "Throws IllegalArgumentException if place is not 0 to 39" */
    private static void weirRefusesPlaces() {
        StakeWeirs x = new StakeWeirs();
        refusedWeir(x, -1, 1, 0);
        refusedWeir(x, 40, 30, 50);
        for (int place : Estuaries.EXTREMES) {
            refusedWeir(x, place, 7, 7);
        }
    }

    /** "Throws IllegalArgumentException if (..) stakes is not 1 to 30" */
    private static void weirRefusesStakes() {
        StakeWeirs x = new StakeWeirs();
        refusedWeir(x, 0, 0, 0);
        refusedWeir(x, 7, -1, 7);
        refusedWeir(x, 39, 31, 50);
        for (int stakes : Estuaries.EXTREMES) {
            refusedWeir(x, 7, stakes, 7);
        }
    }

    /** "Throws IllegalArgumentException if (..) rent is not 0 to 50" */
    private static void weirRefusesRents() {
        StakeWeirs x = new StakeWeirs();
        refusedWeir(x, 0, 1, -1);
        refusedWeir(x, 39, 30, 51);
        for (int rent : Estuaries.EXTREMES) {
            refusedWeir(x, 7, 7, rent);
        }
    }

    /** "place is not 0 to 39, stakes is not 1 to 30, or rent is not 0 to 50": these are. */
    private static void weirTakesItsLeastAndItsMost() {
        int[][] taken = {{0, 7, 7}, {39, 7, 7}, {7, 1, 7}, {7, 30, 7}, {7, 7, 0}, {7, 7, 50}};
        StakeWeirs x = new StakeWeirs();
        for (int i = 0; i < taken.length; i++) {
            int[] t = taken[i];
            CHECK.due("weir(" + t[0] + ", " + t[1] + ", " + t[2] + ")", i,
                    x.weir(t[0], t[1], t[2]));
            CHECK.due("place of " + i, t[0], x.about(i, 0));
            CHECK.due("stakes of " + i, t[1], x.about(i, 1));
            CHECK.due("rent of " + i, t[2], x.about(i, 3));
        }
    }

    private static StakeWeirs withSixWeirs() {
        StakeWeirs x = new StakeWeirs();
        for (int i = 0; i < 6; i++) {
            CHECK.due("weir(7, 7, 50)", i, x.weir(7, 7, 50));
        }
        return x;
    }

    /** "Throws IllegalStateException if there are 6" */
    private static void weirRefusesASeventh() {
        StakeWeirs x = withSixWeirs();
        CHECK.refused("seventh weir", Check.STATE, x, () -> x.weir(0, 1, 0));
        CHECK.refused("seventh weir again", Check.STATE, x, () -> x.weir(39, 30, 50));
        CHECK.due("weirs", 6, x.count(3));
    }

    /** "Throws IllegalStateException if there are 6": forfeit ones are there still. */
    private static void weirRefusesASeventhThoughOneIsForfeit() {
        StakeWeirs x = withSixWeirs();
        x.pass(42);
        CHECK.due("weirs that are held", 0, x.count(4));
        CHECK.refused("seventh weir", Check.STATE, x, () -> x.weir(7, 7, 7));
    }

    /** "If several exceptions apply, the one that is named first is thrown.", of weir */
    private static void weirThrowsForArgumentsFirst() {
        StakeWeirs x = withSixWeirs();
        refusedWeir(x, -1, 7, 7);
        refusedWeir(x, 40, 7, 7);
        refusedWeir(x, 7, 0, 7);
        refusedWeir(x, 7, 31, 7);
        refusedWeir(x, 7, 7, -1);
        refusedWeir(x, 7, 7, 51);
    }

    /** "Throws IndexOutOfBoundsException if there is no such weir", of gate */
    private static void gateRefusesNoSuchWeir() {
        StakeWeirs none = new StakeWeirs();
        CHECK.refused("gate(0) without weirs", Check.INDEX, none, () -> none.gate(0));
        StakeWeirs x = withSixWeirs();
        CHECK.refused("gate(-1)", Check.INDEX, x, () -> x.gate(-1));
        CHECK.refused("gate(6)", Check.INDEX, x, () -> x.gate(6));
        for (int weir : Estuaries.EXTREMES) {
            CHECK.refused("gate(" + weir + ")", Check.INDEX, x, () -> x.gate(weir));
        }
        CHECK.due("gate(5)", true, x.gate(5));
        CHECK.due("gate(0)", true, x.gate(0));
    }

    /** "Throws IllegalStateException if it is forfeit", of gate */
    private static void gateRefusesForfeit() {
        StakeWeirs x = new StakeWeirs();
        x.weir(7, 7, 50);
        x.weir(7, 7, 50);
        CHECK.due("gate(1)", true, x.gate(1));
        x.pass(42);
        CHECK.refused("gate(0) of a shut one", Check.STATE, x, () -> x.gate(0));
        CHECK.refused("gate(1) of an open one", Check.STATE, x, () -> x.gate(1));
        CHECK.due("about(0, 6)", 0, x.about(0, 6));
        CHECK.due("about(1, 6)", 1, x.about(1, 6));
    }

    /** "Opens the gate of a weir, if it is shut, and shuts it, if it is open." */
    private static void gateOpensWhatIsShutAndShutsWhatIsOpen() {
        StakeWeirs x = new StakeWeirs();
        x.weir(7, 7, 7);
        x.weir(7, 7, 7);
        for (int turn = 0; turn < 5; turn++) {
            CHECK.due("gate(0), the turn " + turn, turn % 2 == 0, x.gate(0));
            CHECK.due("about(0, 6), the turn " + turn, turn % 2 == 0 ? 1 : 0, x.about(0, 6));
            CHECK.due("about(1, 6), the turn " + turn, 0, x.about(1, 6));
        }
    }

    /** "Mends wattle, for a fifth (rounded up) of much in coins." */
    private static void mendCostsAFifthRoundedUp() {
        int[][] prices = {{1, 1}, {4, 1}, {5, 1}, {6, 2}, {9, 2}, {10, 2}, {11, 3}, {95, 19},
            {96, 20}, {99, 20}, {100, 20}};
        for (int[] p : prices) {
            StakeWeirs x = Estuaries.withoutWattle();
            CHECK.due("mend(0, " + p[0] + ")", p[0], x.mend(0, p[0]));
            CHECK.due("wattle behind mend(0, " + p[0] + ")", p[0], x.about(0, 2));
            CHECK.due("coins behind mend(0, " + p[0] + ")", 20 - p[1], x.about(0, 4));
        }
    }

    /** "Throws IndexOutOfBoundsException if there is no such weir", of mend */
    private static void mendRefusesNoSuchWeir() {
        StakeWeirs none = new StakeWeirs();
        CHECK.refused("mend(0, 1) without weirs", Check.INDEX, none, () -> none.mend(0, 1));
        StakeWeirs x = Estuaries.withoutWattle();
        CHECK.refused("mend(-1, 1)", Check.INDEX, x, () -> x.mend(-1, 1));
        CHECK.refused("mend(1, 1)", Check.INDEX, x, () -> x.mend(1, 1));
        for (int weir : Estuaries.EXTREMES) {
            CHECK.refused("mend(" + weir + ", 1)", Check.INDEX, x, () -> x.mend(weir, 1));
        }
    }

    /** "Throws IllegalArgumentException if much is not 1 to 100" */
    private static void mendRefusesMuch() {
        StakeWeirs x = Estuaries.withoutWattle();
        CHECK.refused("mend(0, 0)", Check.ARGUMENT, x, () -> x.mend(0, 0));
        CHECK.refused("mend(0, -1)", Check.ARGUMENT, x, () -> x.mend(0, -1));
        CHECK.refused("mend(0, 101)", Check.ARGUMENT, x, () -> x.mend(0, 101));
        for (int much : Estuaries.EXTREMES) {
            CHECK.refused("mend(0, " + much + ")", Check.ARGUMENT, x, () -> x.mend(0, much));
        }
    }

    /** "Throws IllegalStateException if it is forfeit", of mend */
    private static void mendRefusesForfeit() {
        StakeWeirs x = Estuaries.withForfeit();
        CHECK.due("wattle", 10, x.about(0, 2));
        CHECK.due("coins", 20, x.about(0, 4));
        CHECK.refused("mend(0, 1)", Check.STATE, x, () -> x.mend(0, 1));
        CHECK.refused("mend(0, 90)", Check.STATE, x, () -> x.mend(0, 90));
    }

    /** "Throws IllegalStateException if it (..) would have more than 100" */
    private static void mendRefusesMoreThanAHundred() {
        StakeWeirs x = new StakeWeirs();
        x.weir(7, 7, 0);
        CHECK.refused("mend(0, 1) of 100", Check.STATE, x, () -> x.mend(0, 1));
        CHECK.refused("mend(0, 100) of 100", Check.STATE, x, () -> x.mend(0, 100));
        x.pass(1);
        CHECK.refused("mend(0, 4) of 97", Check.STATE, x, () -> x.mend(0, 4));
        CHECK.refused("mend(0, 100) of 97", Check.STATE, x, () -> x.mend(0, 100));
        CHECK.due("mend(0, 3) of 97", 100, x.mend(0, 3));
        CHECK.refused("mend(0, 1) of 100 again", Check.STATE, x, () -> x.mend(0, 1));
        StakeWeirs empty = Estuaries.withoutWattle();
        CHECK.due("mend(0, 100) of none", 100, empty.mend(0, 100));
    }

    /** "Throws IllegalStateException if it (..) has too few coins", of mend */
    private static void mendRefusesTooFewCoins() {
        StakeWeirs x = Estuaries.withoutWattle();
        x.mend(0, 1);
        CHECK.refused("mend(0, 96) with 19 coins", Check.STATE, x, () -> x.mend(0, 96));
        CHECK.refused("mend(0, 99) with 19 coins", Check.STATE, x, () -> x.mend(0, 99));
        CHECK.due("mend(0, 95) with 19 coins", 96, x.mend(0, 95));
        CHECK.due("coins", 0, x.about(0, 4));
        CHECK.refused("mend(0, 1) without coins", Check.STATE, x, () -> x.mend(0, 1));
    }

    /** "If several exceptions apply, the one that is named first is thrown.", of mend */
    private static void mendThrowsInItsOrder() {
        StakeWeirs x = Estuaries.withForfeit();
        CHECK.refused("mend(1, 0)", Check.INDEX, x, () -> x.mend(1, 0));
        CHECK.refused("mend(-1, 101)", Check.INDEX, x, () -> x.mend(-1, 101));
        CHECK.refused("mend(0, 0) of a forfeit one", Check.ARGUMENT, x, () -> x.mend(0, 0));
        CHECK.refused("mend(0, 101) of a forfeit one", Check.ARGUMENT, x, () -> x.mend(0, 101));
        StakeWeirs poor = Estuaries.withCoins(0);
        CHECK.refused("mend(0, 0) without coins", Check.ARGUMENT, poor, () -> poor.mend(0, 0));
        CHECK.refused("mend(0, 101) without coins", Check.ARGUMENT, poor,
                () -> poor.mend(0, 101));
    }

    /** "Drives stakes, for 2 coins each." */
    private static void driveCostsTwoEach() {
        for (int more = 1; more <= 10; more++) {
            StakeWeirs x = new StakeWeirs();
            x.weir(7, 20, 0);
            int stakes = more;
            CHECK.due("drive(0, " + more + ")", 20 + more, x.drive(0, stakes));
            CHECK.due("stakes behind drive(0, " + more + ")", 20 + more, x.about(0, 1));
            CHECK.due("coins behind drive(0, " + more + ")", 20 - 2 * more, x.about(0, 4));
        }
    }

    /** "Throws IndexOutOfBoundsException if there is no such weir", of drive */
    private static void driveRefusesNoSuchWeir() {
        StakeWeirs none = new StakeWeirs();
        CHECK.refused("drive(0, 1) without weirs", Check.INDEX, none, () -> none.drive(0, 1));
        StakeWeirs x = new StakeWeirs();
        x.weir(7, 7, 7);
        CHECK.refused("drive(-1, 1)", Check.INDEX, x, () -> x.drive(-1, 1));
        CHECK.refused("drive(1, 1)", Check.INDEX, x, () -> x.drive(1, 1));
        for (int weir : Estuaries.EXTREMES) {
            CHECK.refused("drive(" + weir + ", 1)", Check.INDEX, x, () -> x.drive(weir, 1));
        }
    }

    /** "Throws IllegalArgumentException if stakes is not 1 to 30" */
    private static void driveRefusesStakes() {
        StakeWeirs x = new StakeWeirs();
        x.weir(7, 7, 7);
        CHECK.refused("drive(0, 0)", Check.ARGUMENT, x, () -> x.drive(0, 0));
        CHECK.refused("drive(0, -1)", Check.ARGUMENT, x, () -> x.drive(0, -1));
        CHECK.refused("drive(0, 31)", Check.ARGUMENT, x, () -> x.drive(0, 31));
        CHECK.refused("drive(0, 30), that is 1 to 30", Check.STATE, x, () -> x.drive(0, 30));
        for (int stakes : Estuaries.EXTREMES) {
            CHECK.refused("drive(0, " + stakes + ")", Check.ARGUMENT, x,
                    () -> x.drive(0, stakes));
        }
    }

    /** "Throws IllegalStateException if it is forfeit", of drive */
    private static void driveRefusesForfeit() {
        StakeWeirs x = new StakeWeirs();
        x.weir(7, 7, 50);
        x.pass(42);
        CHECK.due("coins", 20, x.about(0, 4));
        CHECK.refused("drive(0, 1)", Check.STATE, x, () -> x.drive(0, 1));
        CHECK.refused("drive(0, 10)", Check.STATE, x, () -> x.drive(0, 10));
    }

    /** A weir of 1 stake (place 0, no rent), with as many coins as a sale has brought. */
    private static StakeWeirs richWithOneStake() {
        StakeWeirs x = new StakeWeirs();
        Estuaries.setTable(x, 99);
        x.weir(0, 1, 0);
        Estuaries.passTo(x, 14);
        x.sell(0);
        CHECK.due("coins for 30 stakes are there", true, x.about(0, 4) >= 60);
        return x;
    }

    /** "Throws IllegalStateException if it (..) would have more than 30" */
    private static void driveRefusesMoreThanThirty() {
        StakeWeirs x = richWithOneStake();
        int coins = x.about(0, 4);
        CHECK.refused("drive(0, 30) of 1", Check.STATE, x, () -> x.drive(0, 30));
        CHECK.due("drive(0, 29) of 1", 30, x.drive(0, 29));
        CHECK.due("coins behind it", coins - 58, x.about(0, 4));
        CHECK.refused("drive(0, 1) of 30", Check.STATE, x, () -> x.drive(0, 1));
        StakeWeirs y = new StakeWeirs();
        y.weir(7, 29, 0);
        CHECK.refused("drive(0, 2) of 29", Check.STATE, y, () -> y.drive(0, 2));
        CHECK.due("drive(0, 1) of 29", 30, y.drive(0, 1));
    }

    /** "Throws IllegalStateException if it (..) has too few coins", of drive */
    private static void driveRefusesTooFewCoins() {
        StakeWeirs x = Estuaries.withCoins(5);
        int stakes = x.about(0, 1);
        CHECK.due("stakes", 27, stakes);
        CHECK.refused("drive(0, 3) with 5 coins", Check.STATE, x, () -> x.drive(0, 3));
        CHECK.due("drive(0, 2) with 5 coins", 29, x.drive(0, 2));
        CHECK.due("coins", 1, x.about(0, 4));
        CHECK.refused("drive(0, 1) with 1 coin", Check.STATE, x, () -> x.drive(0, 1));
        StakeWeirs y = new StakeWeirs();
        y.weir(7, 1, 0);
        CHECK.refused("drive(0, 11) with 20 coins", Check.STATE, y, () -> y.drive(0, 11));
        CHECK.due("drive(0, 10) with 20 coins", 11, y.drive(0, 10));
        CHECK.refused("drive(0, 1) without coins", Check.STATE, y, () -> y.drive(0, 1));
    }

    /** "If several exceptions apply, the one that is named first is thrown.", of drive */
    private static void driveThrowsInItsOrder() {
        StakeWeirs x = Estuaries.withForfeit();
        CHECK.refused("drive(1, 0)", Check.INDEX, x, () -> x.drive(1, 0));
        CHECK.refused("drive(-1, 31)", Check.INDEX, x, () -> x.drive(-1, 31));
        CHECK.refused("drive(0, 0) of a forfeit one", Check.ARGUMENT, x, () -> x.drive(0, 0));
        CHECK.refused("drive(0, 31) of a forfeit one", Check.ARGUMENT, x, () -> x.drive(0, 31));
        StakeWeirs poor = Estuaries.withCoins(0);
        CHECK.refused("drive(0, 0) without coins", Check.ARGUMENT, poor, () -> poor.drive(0, 0));
        CHECK.refused("drive(0, 31) without coins", Check.ARGUMENT, poor,
                () -> poor.drive(0, 31));
    }

    /** "by the moon of this night": "half as many", "as many", "half as many more" */
    private static void sellIsByTheMoonOfThisNight() {
        int[][] sold = {{1, 100}, {3, 100}, {4, 200}, {9, 200}, {10, 300}, {18, 300}, {19, 200},
            {24, 200}, {25, 100}, {27, 100}, {28, 100}, {31, 100}, {32, 200}};
        for (int[] s : sold) {
            StakeWeirs x = new StakeWeirs();
            x.setRun(0, 99);
            x.weir(0, 30, 0);
            Estuaries.passTo(x, s[0]);
            CHECK.due("eels", 200, x.about(0, 5));
            CHECK.due("sell(0) of 200 in the night " + s[0], s[1], x.sell(0));
            CHECK.due("coins behind it", 20 + s[1], x.about(0, 4));
            CHECK.due("all eels are sold", 0, x.about(0, 5));
        }
    }

    /** "half as many coins (cut) by a dark one", "half as many more (cut) by a full one" */
    private static void sellIsCut() {
        int[][] sold = {{1, 0, 1, 1}, {2, 1, 2, 3}, {3, 1, 3, 4}, {98, 49, 98, 147},
            {99, 49, 99, 148}};
        int[] nights = {1, 4, 10};
        for (int[] s : sold) {
            for (int moon = 0; moon < 3; moon++) {
                StakeWeirs x = Estuaries.withEels(s[0], nights[moon]);
                String call = "sell(0) of " + s[0] + " by the moon " + moon;
                CHECK.due("eels before " + call, s[0], x.about(0, 5));
                CHECK.due(call, s[1 + moon], x.sell(0));
                CHECK.due("coins behind " + call, 20 + s[1 + moon], x.about(0, 4));
                CHECK.due("eels behind " + call, 0, x.about(0, 5));
            }
        }
    }

    /** "Throws IndexOutOfBoundsException if there is no such weir", of sell */
    private static void sellRefusesNoSuchWeir() {
        StakeWeirs none = new StakeWeirs();
        CHECK.refused("sell(0) without weirs", Check.INDEX, none, () -> none.sell(0));
        StakeWeirs x = Estuaries.withEels(5, 1);
        CHECK.refused("sell(-1)", Check.INDEX, x, () -> x.sell(-1));
        CHECK.refused("sell(1)", Check.INDEX, x, () -> x.sell(1));
        for (int weir : Estuaries.EXTREMES) {
            CHECK.refused("sell(" + weir + ")", Check.INDEX, x, () -> x.sell(weir));
        }
    }

    /** "Throws IllegalStateException if it is forfeit", of sell */
    private static void sellRefusesForfeit() {
        StakeWeirs x = Estuaries.withForfeit();
        CHECK.refused("sell(0)", Check.STATE, x, () -> x.sell(0));
        x.pass(60);
        CHECK.refused("sell(0) later", Check.STATE, x, () -> x.sell(0));
    }

    /** "Throws IllegalStateException if it (..) has no eels" */
    private static void sellRefusesNoEels() {
        StakeWeirs x = new StakeWeirs();
        x.weir(0, 30, 0);
        CHECK.refused("sell(0) of a new one", Check.STATE, x, () -> x.sell(0));
        x.pass(1);
        x.sell(0);
        CHECK.refused("sell(0) when all are sold", Check.STATE, x, () -> x.sell(0));
        StakeWeirs one = Estuaries.withEels(1, 1);
        CHECK.due("sell(0) of one eel by a dark moon", 0, one.sell(0));
        CHECK.refused("sell(0) when it is sold", Check.STATE, one, () -> one.sell(0));
    }
}
