/** Promises 20 and 21: mean, digest. */
final class MeanAndDigestTest {
    private static final Check CHECK = new Check();

    public static void main(String[] args) {
        meanIsOfHeldWeirs();
        digestOfANewEstuary();
        digestIsOfAllThatIsTold();
        CHECK.end();
    }

    private static void meanIsOfHeldWeirs() {
        StakeWeirs x = new StakeWeirs();
        CHECK.due("mean() without weirs", 0.0, x.mean());
        x.weir(3, 9, 50);
        CHECK.due("mean() of one", 100.0, x.mean());
        x.pass(1);
        x.weir(3, 9, 0);
        CHECK.due("mean() of two", 98.5, x.mean());
        x.weir(3, 9, 0);
        x.gate(2);
        CHECK.due("mean() of three, one open", 297 / 3.0, x.mean());
        x.pass(1);
        x.weir(3, 9, 0);
        x.weir(3, 9, 0);
        x.weir(3, 9, 0);
        CHECK.due("mean() of six", (94 + 97 + 97 + 300) / 6.0, x.mean());
        x.pass(40);
        CHECK.due("mean() of those that are held", (13 + 13 + 16 * 3) / 5.0, x.mean());
        StakeWeirs forfeit = new StakeWeirs();
        forfeit.weir(3, 9, 50);
        forfeit.pass(42);
        CHECK.due("mean() without any that is held", 0.0, forfeit.mean());
    }

    private static void digestOfANewEstuary() {
        long d = 1409;
        int[] numbers = {0, 0, 90, 0, 0, 0, 0, 0, 0, 0, 30, 30, 30, 30, 30, 30, 30};
        for (int x : numbers) {
            d = d * 31 + x;
        }
        CHECK.due("digest() of a new estuary", d, new StakeWeirs().digest());
    }

    private static void digestIsOfAllThatIsTold() {
        StakeWeirs x = new StakeWeirs();
        int[] table = {0, 99, 3, 14, 15, 92, 65};
        for (int night = 0; night < 7; night++) {
            x.setRun(night, table[night]);
        }
        x.weir(8, 30, 20);
        x.weir(31, 14, 1);
        x.gate(1);
        x.barge(3);
        x.pass(3);
        x.barge(19);
        x.pass(4);
        x.barge(20);
        long d = 1409;
        for (int what = 0; what <= 9; what++) {
            d = d * 31 + x.count(what);
        }
        for (int eels : table) {
            d = d * 31 + eels;
        }
        for (int at = 0; at < 2 * 8; at++) {
            d = d * 31 + x.about(at / 8, at % 8);
        }
        for (int at = 0; at < 3 * 4; at++) {
            d = d * 31 + x.told(at / 4, at % 4);
        }
        CHECK.due("digest()", d, x.digest());
    }
}
