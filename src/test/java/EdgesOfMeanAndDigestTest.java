import java.math.BigInteger;

/** The edges that promises 20 and 21 name: mean, digest. */
final class EdgesOfMeanAndDigestTest {
    private static final Check CHECK = new Check();
    private static final long NEW_DIGEST = 5975950833029878871L;

    public static void main(String[] args) {
        meanWithoutAny();
        meanWithoutAnyThatIsHeld();
        meanOfNoWattle();
        meanIsNotCut();
        meanIsOfHeldOnes();
        digestOfANewEstuaryWraps();
        digestOfAFullEstuaryWraps();
        digestGoesBelowNone();
        digestKnowsEachNumber();
        CHECK.end();
    }

    /** "0 without any.", without weirs */
    private static void meanWithoutAny() {
        StakeWeirs x = new StakeWeirs();
        CHECK.due("mean() without weirs", 0.0, x.mean());
    }

    /** "0 without any.", as all are forfeit */
    private static void meanWithoutAnyThatIsHeld() {
        StakeWeirs x = Estuaries.withForfeit();
        CHECK.due("wattle of the forfeit one", 10, x.about(0, 2));
        CHECK.due("mean() without any that is held", 0.0, x.mean());
    }

    /** "the mean wattle", of a wattle of 0 */
    private static void meanOfNoWattle() {
        StakeWeirs x = Estuaries.withoutWattle();
        CHECK.due("mean() of 0", 0.0, x.mean());
        x.mend(0, 1);
        CHECK.due("mean() of 1", 1.0, x.mean());
        x.weir(7, 7, 0);
        CHECK.due("mean() of 1 and 100", 50.5, x.mean());
    }

    /** "the mean wattle": a double, not cut */
    private static void meanIsNotCut() {
        StakeWeirs x = new StakeWeirs();
        Estuaries.passTo(x, 4);
        x.weir(7, 7, 0);
        x.pass(1);
        x.weir(7, 7, 0);
        CHECK.due("mean() of 99 and 100", 99.5, x.mean());
        x.weir(7, 7, 0);
        CHECK.due("mean() of 99, 100 and 100", 299 / 3.0, x.mean());
        x.weir(7, 7, 0);
        x.weir(7, 7, 0);
        x.weir(7, 7, 0);
        CHECK.due("mean() of 99 and five of 100", 599 / 6.0, x.mean());
    }

    /** "all weirs that are held" */
    private static void meanIsOfHeldOnes() {
        StakeWeirs x = Estuaries.withForfeit();
        x.weir(7, 7, 0);
        CHECK.due("mean() without the forfeit one", 100.0, x.mean());
        x.weir(7, 7, 0);
        x.gate(2);
        x.pass(1);
        CHECK.due("mean() with an open one", 97.0, x.mean());
        x.mend(1, 3);
        CHECK.due("mean() of a mended and an open one", 98.5, x.mean());
    }

    /** "A number d starts with 1409; for each of the following numbers x, d becomes d * 31 + x" */
    private static long digestOf(StakeWeirs x, int[] table) {
        BigInteger d = BigInteger.valueOf(1409);
        for (int what = 0; what <= 9; what++) {
            d = step(d, x.count(what));
        }
        for (int eels : table) {
            d = step(d, eels);
        }
        for (int weir = 0; weir < x.count(3); weir++) {
            for (int what = 0; what <= 7; what++) {
                d = step(d, x.about(weir, what));
            }
        }
        for (int barge = 0; barge < x.count(5); barge++) {
            for (int what = 0; what <= 3; what++) {
                d = step(d, x.told(barge, what));
            }
        }
        CHECK.due("the number is more than 64 bits hold", true, d.bitLength() > 64);
        return d.longValue();
    }

    private static BigInteger step(BigInteger d, int x) {
        return d.multiply(BigInteger.valueOf(31)).add(BigInteger.valueOf(x));
    }

    /** "which wraps around as a 64-bit integer", of the fewest numbers that there are */
    private static void digestOfANewEstuaryWraps() {
        StakeWeirs x = new StakeWeirs();
        int[] table = {30, 30, 30, 30, 30, 30, 30};
        CHECK.due("digest()", digestOf(x, table), x.digest());
        CHECK.due("digest(), as a number", NEW_DIGEST, x.digest());
    }

    /** "which wraps around as a 64-bit integer", of the most numbers that there are */
    private static void digestOfAFullEstuaryWraps() {
        StakeWeirs x = new StakeWeirs();
        int[] table = {99, 0, 98, 1, 97, 2, 96};
        for (int night = 0; night < 7; night++) {
            x.setRun(night, table[night]);
        }
        for (int i = 0; i < 6; i++) {
            x.weir(7 * i, 30 - i, 10 * i);
        }
        x.gate(3);
        x.pass(60);
        for (int i = 1; i <= 5; i++) {
            x.barge(4 * i);
            CHECK.due("digest() behind the barge " + i, digestOf(x, table), x.digest());
            x.pass(1);
        }
        CHECK.due("barges under way", 5, x.count(5));
        CHECK.due("digest()", digestOf(x, table), x.digest());
    }

    /** "for each barge what told() tells": -1 for its place, and -1 for none in its way */
    private static void digestGoesBelowNone() {
        StakeWeirs x = new StakeWeirs();
        int[] table = {30, 30, 30, 30, 30, 30, 30};
        x.barge(1);
        CHECK.due("place", -1, x.told(0, 1));
        CHECK.due("next in its way", -1, x.told(0, 3));
        CHECK.due("digest()", digestOf(x, table), x.digest());
    }

    /** "what count() tells, in its order; the eels of each night of the table; (..)" */
    private static void digestKnowsEachNumber() {
        StakeWeirs x = new StakeWeirs();
        x.weir(7, 7, 7);
        x.weir(7, 7, 7);
        int[] table = {30, 30, 30, 30, 30, 30, 30};
        for (int night = 0; night < 7; night++) {
            x.setRun(night, 50 + night);
            table[night] = 50 + night;
            CHECK.due("digest() with the table's night " + night, digestOf(x, table), x.digest());
        }
        x.gate(1);
        CHECK.due("digest() with an open one", digestOf(x, table), x.digest());
        x.drive(0, 3);
        CHECK.due("digest() with more stakes", digestOf(x, table), x.digest());
        x.pass(1);
        CHECK.due("digest() behind a night", digestOf(x, table), x.digest());
        x.sell(0);
        CHECK.due("digest() behind a sale", digestOf(x, table), x.digest());
        x.pass(14);
        CHECK.due("digest() behind a rent", digestOf(x, table), x.digest());
    }
}
