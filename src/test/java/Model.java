import java.util.ArrayList;
import java.util.List;

/**
 * The document's words once more, written as plainly as they are told and without a thought of
 * what they cost, so that the program's answers to any calls can be held against them.
 */
final class Model {
    private static final String MOONS = "0000111111222222222111111000";

    private static final class Weir {
        int place;
        int stakes;
        int wattle = 100;
        int rent;
        int coins = 20;
        int eels;
        boolean open;
        int owes;

        boolean held() {
            return owes != 3;
        }

        boolean inTheWayOf(int width) {
            return held() && !open && stakes > 30 - width;
        }
    }

    private static final class Barge {
        int width;
        int place = -1;
        int broken;
    }

    private final List<Weir> weirs = new ArrayList<>();
    private final List<Barge> barges = new ArrayList<>();
    private final int[] table = {30, 30, 30, 30, 30, 30, 30};
    private int night;
    private int arrived;
    private int fines;
    private int rents;

    private Model copy() {
        Model m = new Model();
        for (Weir w : weirs) {
            Weir n = new Weir();
            n.place = w.place;
            n.stakes = w.stakes;
            n.wattle = w.wattle;
            n.rent = w.rent;
            n.coins = w.coins;
            n.eels = w.eels;
            n.open = w.open;
            n.owes = w.owes;
            m.weirs.add(n);
        }
        for (Barge b : barges) {
            Barge n = new Barge();
            n.width = b.width;
            n.place = b.place;
            n.broken = b.broken;
            m.barges.add(n);
        }
        System.arraycopy(table, 0, m.table, 0, 7);
        m.night = night;
        m.arrived = arrived;
        m.fines = fines;
        m.rents = rents;
        return m;
    }

    private static void argument(boolean right) {
        if (!right) {
            throw new IllegalArgumentException();
        }
    }

    private static void state(boolean right) {
        if (!right) {
            throw new IllegalStateException();
        }
    }

    private static void index(boolean right) {
        if (!right) {
            throw new IndexOutOfBoundsException();
        }
    }

    private Weir one(int weir) {
        index(weir >= 0 && weir < weirs.size());
        return weirs.get(weir);
    }

    private int moon() {
        return MOONS.charAt(night % 28) - '0';
    }

    private int run() {
        return table[night % 7] * (3 - moon());
    }

    private void eelsRun() {
        int run = run();
        for (int place = 39; place >= 0; place--) {
            for (Weir w : weirs) {
                if (w.place == place && w.held() && !w.open) {
                    int caught = run * w.stakes * w.wattle / 3000;
                    while (w.eels + caught > 200) {
                        caught--;
                    }
                    w.eels += caught;
                    run -= caught;
                }
            }
        }
    }

    private void bargeGoes(Barge b) {
        boolean broke = false;
        for (int step = 0; step < 5 && !broke && b.place < 39; step++) {
            b.place++;
            for (Weir w : weirs) {
                if (w.place == b.place && w.inTheWayOf(b.width)) {
                    broke = true;
                    w.stakes = 30 - b.width;
                    w.wattle = w.wattle < 20 ? 0 : w.wattle - 20;
                    int fine = w.coins < 3 ? w.coins : 3;
                    w.coins -= fine;
                    fines += fine;
                    b.broken++;
                }
            }
        }
    }

    /** Lets a night go by, and returns the barges that arrive in it. */
    private List<Barge> goOn() {
        eelsRun();
        List<Barge> there = new ArrayList<>();
        for (Barge b : barges) {
            bargeGoes(b);
            if (b.place == 39) {
                there.add(b);
            }
        }
        barges.removeAll(there);
        arrived += there.size();
        for (Weir w : weirs) {
            if (w.held()) {
                w.wattle = Math.max(0, w.wattle - (moon() == 1 ? 1 : 3));
            }
        }
        for (Weir w : weirs) {
            if (night % 14 == 13 && w.held()) {
                payRent(w);
            }
        }
        night++;
        return there;
    }

    private void payRent(Weir w) {
        if (w.coins >= w.rent) {
            w.coins -= w.rent;
            rents += w.rent;
            w.owes = 0;
        } else {
            w.owes++;
            w.eels = w.owes == 3 ? 0 : w.eels;
        }
    }

    int weir(int place, int stakes, int rent) {
        argument(place >= 0 && place <= 39 && stakes >= 1 && stakes <= 30);
        argument(rent >= 0 && rent <= 50);
        state(weirs.size() < 6);
        Weir w = new Weir();
        w.place = place;
        w.stakes = stakes;
        w.rent = rent;
        weirs.add(w);
        return weirs.size() - 1;
    }

    int gate(int weir) {
        Weir w = one(weir);
        state(w.held());
        w.open = !w.open;
        return w.open ? 1 : 0;
    }

    int mend(int weir, int much) {
        Weir w = one(weir);
        argument(much >= 1 && much <= 100);
        int price = much / 5 + (much % 5 > 0 ? 1 : 0);
        state(w.held() && w.wattle + much <= 100 && w.coins >= price);
        w.coins -= price;
        w.wattle += much;
        return w.wattle;
    }

    int drive(int weir, int stakes) {
        Weir w = one(weir);
        argument(stakes >= 1 && stakes <= 30);
        state(w.held() && w.stakes + stakes <= 30 && w.coins >= 2 * stakes);
        w.coins -= 2 * stakes;
        w.stakes += stakes;
        return w.stakes;
    }

    int sell(int weir) {
        Weir w = one(weir);
        state(w.held() && w.eels > 0);
        int[] coins = {w.eels / 2, w.eels, w.eels + w.eels / 2};
        w.eels = 0;
        w.coins += coins[moon()];
        return coins[moon()];
    }

    int setRun(int tableNight, int eels) {
        index(tableNight >= 0 && tableNight <= 6);
        argument(eels >= 0 && eels <= 99);
        int before = table[tableNight];
        table[tableNight] = eels;
        return before;
    }

    int barge(int wide) {
        argument(wide >= 1 && wide <= 20);
        state(barges.size() < 5);
        Barge b = new Barge();
        b.width = wide;
        barges.add(b);
        return barges.size() - 1;
    }

    int about(int weir, int what) {
        Weir w = one(weir);
        index(what >= 0 && what <= 7);
        int[] facts = {w.place, w.stakes, w.wattle, w.rent, w.coins, w.eels, w.open ? 1 : 0,
            w.owes};
        return facts[what];
    }

    int told(int barge, int what) {
        index(barge >= 0 && barge < barges.size() && what >= 0 && what <= 3);
        Barge b = barges.get(barge);
        int[] facts = {b.width, b.place, b.broken, -1};
        for (int place = 39; place > b.place; place--) {
            for (int i = weirs.size() - 1; i >= 0; i--) {
                if (weirs.get(i).place == place && weirs.get(i).inTheWayOf(b.width)) {
                    facts[3] = i;
                }
            }
        }
        return facts[what];
    }

    int count(int what) {
        index(what >= 0 && what <= 9);
        int held = 0;
        int eels = 0;
        for (Weir w : weirs) {
            held += w.held() ? 1 : 0;
            eels += w.eels;
        }
        int[] facts = {night, moon(), run(), weirs.size(), held, barges.size(), arrived, fines,
            rents, eels};
        return facts[what];
    }

    int hinders(int wide) {
        argument(wide >= 1 && wide <= 20);
        int hinders = 0;
        for (Weir w : weirs) {
            hinders += w.inTheWayOf(wide) ? 1 : 0;
        }
        return hinders;
    }

    int richest() {
        int richest = -1;
        for (int i = weirs.size() - 1; i >= 0; i--) {
            boolean asRich = richest < 0 || weirs.get(i).coins >= weirs.get(richest).coins;
            richest = weirs.get(i).held() && asRich ? i : richest;
        }
        return richest;
    }

    int pass(int nights) {
        argument(nights >= 1 && nights <= 60);
        int arrive = 0;
        for (int i = 0; i < nights; i++) {
            arrive += goOn().size();
        }
        return arrive;
    }

    int catches(int weir) {
        one(weir);
        Model m = copy();
        m.eelsRun();
        return m.weirs.get(weir).eels - weirs.get(weir).eels;
    }

    int arrives(int barge) {
        index(barge >= 0 && barge < barges.size());
        Model m = copy();
        Barge b = m.barges.get(barge);
        int nights = 1;
        while (!m.goOn().contains(b)) {
            nights++;
        }
        return nights;
    }

    int lasts(int weir) {
        one(weir);
        Model m = copy();
        int nights = 0;
        while (m.weirs.get(weir).wattle > 0 && m.weirs.get(weir).held()) {
            m.goOn();
            nights++;
        }
        return nights;
    }

    int foresee(int nights, int what) {
        argument(nights >= 1 && nights <= 56);
        index(what == 4 || what == 6 || what == 7 || what == 8 || what == 9);
        Model m = copy();
        m.pass(nights);
        return m.count(what);
    }

    int advise(int weir, int nights) {
        one(weir);
        argument(nights >= 1 && nights <= 20);
        int best = 30;
        int most = 0;
        for (int stakes = 30; stakes >= 1; stakes--) {
            Model m = copy();
            m.weirs.get(weir).stakes = stakes;
            m.pass(nights);
            if (m.weirs.get(weir).eels >= most) {
                most = m.weirs.get(weir).eels;
                best = stakes;
            }
        }
        return best;
    }

    double mean() {
        int held = 0;
        int wattle = 0;
        for (Weir w : weirs) {
            held += w.held() ? 1 : 0;
            wattle += w.held() ? w.wattle : 0;
        }
        return held == 0 ? 0 : (double) wattle / held;
    }

    long digest() {
        long d = 1409;
        for (int what = 0; what <= 9; what++) {
            d = d * 31 + count(what);
        }
        for (int eels : table) {
            d = d * 31 + eels;
        }
        for (int at = 0; at < 8 * weirs.size(); at++) {
            d = d * 31 + about(at / 8, at % 8);
        }
        for (int at = 0; at < 4 * barges.size(); at++) {
            d = d * 31 + told(at / 4, at % 4);
        }
        return d;
    }
}
