/** Fishing weirs of stakes and wattle in an estuary. */
public final class StakeWeirs {
    private static final int LAST_PLACE = 39;
    private static final int ESTUARY_WIDTH = 30;

    private static final int MOST_WEIRS = 6;
    private static final int MOST_STAKES = 30;
    private static final int MOST_WATTLE = 100;
    private static final int MOST_RENT = 50;
    private static final int MOST_EELS = 200;
    private static final int FIRST_COINS = 20;
    private static final int STAKE_PRICE = 2;
    private static final int WATTLE_FOR_A_COIN = 5;
    private static final int FORFEIT = 3;
    private static final int WHOLE_WEIR = MOST_STAKES * MOST_WATTLE;

    private static final int MOST_BARGES = 5;
    private static final int WIDEST_BARGE = 20;
    private static final int BEFORE_THE_SEA = -1;
    private static final int PLACES_A_NIGHT = 5;
    private static final int BROKEN_WATTLE = 20;
    private static final int FINE = 3;

    private static final int TABLE_NIGHTS = 7;
    private static final int FIRST_TABLE_EELS = 30;
    private static final int MOST_TABLE_EELS = 99;

    private static final int DARK_MOON = 0;
    private static final int HALF_MOON = 1;
    private static final int FULL_MOON = 2;
    private static final int MOON_NIGHTS = 28;
    private static final int RENT_NIGHTS = 14;

    private static final int MOST_PASSED = 60;
    private static final int MOST_FORESEEN = 56;
    private static final int MOST_ADVISED = 20;

    private static final int NONE = -1;
    private static final int LAST_ABOUT = 7;
    private static final int LAST_TOLD = 3;
    private static final int LAST_COUNT = 9;
    private static final long FIRST_DIGEST = 1409L;
    private static final long DIGEST_FACTOR = 31L;

    private final Estuary now;
    /** Where it is tried what would be: made once, as every call counts what it makes. */
    private final Estuary trial;

    public StakeWeirs() {
        now = new Estuary();
        trial = new Estuary();
    }

    // ---- weirs

    public int weir(int place, int stakes, int rent)
            throws IllegalArgumentException, IllegalStateException {
        if (!isWithin(place, 0, LAST_PLACE) || !isWithin(stakes, 1, MOST_STAKES)
                || !isWithin(rent, 0, MOST_RENT)) {
            throw new IllegalArgumentException("place, stakes or rent is out of bounds");
        }
        if (now.weirCount >= MOST_WEIRS) {
            throw new IllegalStateException("there are 6 weirs");
        }
        return now.addWeir(place, stakes, rent);
    }

    public boolean gate(int weir) throws IndexOutOfBoundsException, IllegalStateException {
        Weir chosen = now.weirAt(weir);
        if (chosen == null) {
            throw new IndexOutOfBoundsException("no such weir");
        }
        if (!chosen.isHeld()) {
            throw new IllegalStateException("the weir is forfeit");
        }
        chosen.open = !chosen.open;
        return chosen.open;
    }

    public int mend(int weir, int much)
            throws IndexOutOfBoundsException, IllegalArgumentException, IllegalStateException {
        Weir chosen = now.weirAt(weir);
        if (chosen == null) {
            throw new IndexOutOfBoundsException("no such weir");
        }
        if (!isWithin(much, 1, MOST_WATTLE)) {
            throw new IllegalArgumentException("much is not 1 to 100");
        }
        int price = (much + WATTLE_FOR_A_COIN - 1) / WATTLE_FOR_A_COIN;
        if (!chosen.isHeld() || chosen.wattle + much > MOST_WATTLE || chosen.coins < price) {
            throw new IllegalStateException("forfeit, too much wattle or too few coins");
        }
        chosen.coins -= price;
        chosen.wattle += much;
        return chosen.wattle;
    }

    public int drive(int weir, int stakes)
            throws IndexOutOfBoundsException, IllegalArgumentException, IllegalStateException {
        Weir chosen = now.weirAt(weir);
        if (chosen == null) {
            throw new IndexOutOfBoundsException("no such weir");
        }
        if (!isWithin(stakes, 1, MOST_STAKES)) {
            throw new IllegalArgumentException("stakes is not 1 to 30");
        }
        int price = stakes * STAKE_PRICE;
        if (!chosen.isHeld() || chosen.stakes + stakes > MOST_STAKES || chosen.coins < price) {
            throw new IllegalStateException("forfeit, too many stakes or too few coins");
        }
        chosen.coins -= price;
        chosen.stakes += stakes;
        return chosen.stakes;
    }

    public int sell(int weir) throws IndexOutOfBoundsException, IllegalStateException {
        Weir chosen = now.weirAt(weir);
        if (chosen == null) {
            throw new IndexOutOfBoundsException("no such weir");
        }
        if (!chosen.isHeld() || chosen.eels == 0) {
            throw new IllegalStateException("the weir is forfeit or has no eels");
        }
        int coins = priceOfEels(chosen.eels, now.moon());
        chosen.eels = 0;
        chosen.coins += coins;
        return coins;
    }

    // ---- eels, barges

    public int setRun(int night, int eels)
            throws IndexOutOfBoundsException, IllegalArgumentException {
        if (!isWithin(night, 0, TABLE_NIGHTS - 1)) {
            throw new IndexOutOfBoundsException("night is not 0 to 6");
        }
        if (!isWithin(eels, 0, MOST_TABLE_EELS)) {
            throw new IllegalArgumentException("eels is not 0 to 99");
        }
        int before = now.tableEels(night);
        now.setTableEels(night, eels);
        return before;
    }

    public int barge(int wide) throws IllegalArgumentException, IllegalStateException {
        if (!isWithin(wide, 1, WIDEST_BARGE)) {
            throw new IllegalArgumentException("wide is not 1 to 20");
        }
        if (now.bargeCount >= MOST_BARGES) {
            throw new IllegalStateException("5 barges are under way");
        }
        return now.addBarge(wide);
    }

    // ---- what there is

    public int about(int weir, int what) throws IndexOutOfBoundsException {
        Weir chosen = now.weirAt(weir);
        if (chosen == null || !isWithin(what, 0, LAST_ABOUT)) {
            throw new IndexOutOfBoundsException("no such weir, or what is not 0 to 7");
        }
        return chosen.fact(what);
    }

    public int told(int barge, int what) throws IndexOutOfBoundsException {
        Barge chosen = now.bargeAt(barge);
        if (chosen == null || !isWithin(what, 0, LAST_TOLD)) {
            throw new IndexOutOfBoundsException("no such barge, or what is not 0 to 3");
        }
        return now.bargeFact(chosen, what);
    }

    public int count(int what) throws IndexOutOfBoundsException {
        if (!isWithin(what, 0, LAST_COUNT)) {
            throw new IndexOutOfBoundsException("what is not 0 to 9");
        }
        return now.fact(what);
    }

    public int hinders(int wide) throws IllegalArgumentException {
        if (!isWithin(wide, 1, WIDEST_BARGE)) {
            throw new IllegalArgumentException("wide is not 1 to 20");
        }
        return now.weirsInWay(wide);
    }

    public int richest() {
        return now.richestHeld();
    }

    // ---- nights and what would be

    public int pass(int nights) throws IllegalArgumentException {
        if (!isWithin(nights, 1, MOST_PASSED)) {
            throw new IllegalArgumentException("nights is not 1 to 60");
        }
        int before = now.arrived;
        now.goThroughNights(nights);
        return now.arrived - before;
    }

    public int catches(int weir) throws IndexOutOfBoundsException {
        Weir today = now.weirAt(weir);
        if (today == null) {
            throw new IndexOutOfBoundsException("no such weir");
        }
        trial.copyFrom(now);
        trial.catchEels();
        Weir tried = trial.weirAt(weir);
        return tried == null ? 0 : tried.eels - today.eels;
    }

    public int arrives(int barge) throws IndexOutOfBoundsException {
        Barge chosen = now.bargeAt(barge);
        if (chosen == null) {
            throw new IndexOutOfBoundsException("no such barge");
        }
        trial.copyFrom(now);
        int nights = 0;
        // It goes on by a place a night at least, so that the places bound its nights.
        while (nights <= LAST_PLACE && trial.isUnderWay(chosen.ticket)) {
            trial.goThroughNights(1);
            nights++;
        }
        return nights;
    }

    public int lasts(int weir) throws IndexOutOfBoundsException {
        if (now.weirAt(weir) == null) {
            throw new IndexOutOfBoundsException("no such weir");
        }
        trial.copyFrom(now);
        Weir tried = trial.weirAt(weir);
        int nights = 0;
        // A weir that is held loses wattle every night, so that its wattle bounds the nights.
        while (nights < MOST_WATTLE && tried != null && tried.isHeld() && tried.wattle > 0) {
            trial.goThroughNights(1);
            nights++;
        }
        return nights;
    }

    public int foresee(int nights, int what)
            throws IllegalArgumentException, IndexOutOfBoundsException {
        if (!isWithin(nights, 1, MOST_FORESEEN)) {
            throw new IllegalArgumentException("nights is not 1 to 56");
        }
        if (what != 4 && !isWithin(what, 6, LAST_COUNT)) {
            throw new IndexOutOfBoundsException("what is not 4, 6, 7, 8 or 9");
        }
        trial.copyFrom(now);
        trial.goThroughNights(nights);
        return trial.fact(what);
    }

    public int advise(int weir, int nights)
            throws IndexOutOfBoundsException, IllegalArgumentException {
        Weir chosen = now.weirAt(weir);
        if (chosen == null) {
            throw new IndexOutOfBoundsException("no such weir");
        }
        if (!isWithin(nights, 1, MOST_ADVISED)) {
            throw new IllegalArgumentException("nights is not 1 to 20");
        }
        if (!chosen.isFishing()) {
            return 1;
        }
        int best = 1;
        int most = NONE;
        for (int stakes = 1; stakes <= MOST_STAKES; stakes++) {
            int eels = eelsWithStakes(weir, stakes, nights);
            if (eels > most) {
                most = eels;
                best = stakes;
            }
        }
        return best;
    }

    public double mean() {
        int held = now.heldWeirs();
        return held == 0 ? 0.0 : (double) now.heldWattle() / held;
    }

    public long digest() {
        long d = FIRST_DIGEST;
        for (int what = 0; what <= LAST_COUNT; what++) {
            d = d * DIGEST_FACTOR + now.fact(what);
        }
        for (int night = 0; night < TABLE_NIGHTS; night++) {
            d = d * DIGEST_FACTOR + now.tableEels(night);
        }
        return digestOfBarges(digestOfWeirs(d));
    }

    private long digestOfWeirs(long start) {
        long d = start;
        for (int i = 0; i < now.weirCount; i++) {
            Weir weir = now.weirAt(i);
            for (int what = 0; what <= LAST_ABOUT && weir != null; what++) {
                d = d * DIGEST_FACTOR + weir.fact(what);
            }
        }
        return d;
    }

    private long digestOfBarges(long start) {
        long d = start;
        for (int i = 0; i < now.bargeCount; i++) {
            Barge barge = now.bargeAt(i);
            for (int what = 0; what <= LAST_TOLD && barge != null; what++) {
                d = d * DIGEST_FACTOR + now.bargeFact(barge, what);
            }
        }
        return d;
    }

    private int eelsWithStakes(int number, int stakes, int nights) {
        trial.copyFrom(now);
        Weir tried = trial.weirAt(number);
        if (tried == null) {
            return 0;
        }
        tried.stakes = stakes;
        trial.goThroughNights(nights);
        return tried.eels;
    }

    private static boolean isWithin(int x, int least, int most) {
        return least <= x && x <= most;
    }

    private static int priceOfEels(int eels, int moon) {
        if (moon == DARK_MOON) {
            return eels / 2;
        }
        return moon == HALF_MOON ? eels : eels + eels / 2;
    }

    /** One weir; those of a row that are not in use yet hold nothing that counts. */
    private static final class Weir {
        int place;
        int stakes;
        int wattle;
        int rent;
        int coins;
        int eels;
        boolean open;
        int owed;

        void makeNew(int newPlace, int newStakes, int newRent) {
            place = newPlace;
            stakes = newStakes;
            wattle = MOST_WATTLE;
            rent = newRent;
            coins = FIRST_COINS;
            eels = 0;
            open = false;
            owed = 0;
        }

        void copyFrom(Weir other) {
            place = other.place;
            stakes = other.stakes;
            wattle = other.wattle;
            rent = other.rent;
            coins = other.coins;
            eels = other.eels;
            open = other.open;
            owed = other.owed;
        }

        boolean isHeld() {
            return owed < FORFEIT;
        }

        boolean isFishing() {
            return owed < FORFEIT && !open;
        }

        boolean isInWay(int wide) {
            return isFishing() && stakes > ESTUARY_WIDTH - wide;
        }

        int fact(int what) {
            switch (what) {
                case 0: return place;
                case 1: return stakes;
                case 2: return wattle;
                case 3: return rent;
                case 4: return coins;
                case 5: return eels;
                case 6: return open ? 1 : 0;
                default: return owed;
            }
        }

        /** Returns how many eels it catches of those that come to it. */
        int catchOf(int coming) {
            int caught = Math.min(coming * stakes * wattle / WHOLE_WEIR, MOST_EELS - eels);
            eels += caught;
            return caught;
        }

        /** Returns the fine that it pays. */
        int breakFor(int wide) {
            stakes = ESTUARY_WIDTH - wide;
            loseWattle(BROKEN_WATTLE);
            int fine = Math.min(FINE, coins);
            coins -= fine;
            return fine;
        }

        void loseWattle(int much) {
            wattle = wattle > much ? wattle - much : 0;
        }

        /** Returns the rent that it pays. */
        int payRent() {
            if (coins >= rent) {
                coins -= rent;
                owed = 0;
                return rent;
            }
            owed++;
            if (owed >= FORFEIT) {
                eels = 0;
            }
            return 0;
        }
    }

    /** One barge under way. */
    private static final class Barge {
        /** How many barges came before it: unlike its number this stays. */
        int ticket;
        int wide;
        int place;
        int broken;

        void makeNew(int newTicket, int newWide) {
            ticket = newTicket;
            wide = newWide;
            place = BEFORE_THE_SEA;
            broken = 0;
        }

        void copyFrom(Barge other) {
            ticket = other.ticket;
            wide = other.wide;
            place = other.place;
            broken = other.broken;
        }

        /** Goes on by a night, and no further than to where there is something in its way. */
        void goOn(int furthest) {
            place = Math.min(place + PLACES_A_NIGHT, furthest);
        }
    }

    /** All that there is in an estuary, and how its nights go. */
    private static final class Estuary {
        final int[] table;
        final Weir[] weirs;
        /** The numbers of the weirs in the order in which the run comes to them. */
        final int[] order;
        final Barge[] barges;
        int weirCount;
        int bargeCount;
        int night;
        int arrived;
        int fines;
        int rents;

        Estuary() {
            table = new int[TABLE_NIGHTS];
            for (int i = 0; i < table.length; i++) {
                table[i] = FIRST_TABLE_EELS;
            }
            order = new int[MOST_WEIRS];
            weirs = new Weir[MOST_WEIRS];
            for (int i = 0; i < weirs.length; i++) {
                weirs[i] = new Weir();
            }
            barges = new Barge[MOST_BARGES];
            for (int i = 0; i < barges.length; i++) {
                barges[i] = new Barge();
            }
        }

        void copyFrom(Estuary other) {
            for (int i = 0; i < table.length; i++) {
                table[i] = other.tableEels(i);
            }
            for (int i = 0; i < order.length; i++) {
                order[i] = other.inOrder(i);
            }
            weirCount = other.weirCount;
            for (int i = 0; i < weirCount; i++) {
                copyWeir(weirAt(i), other.weirAt(i));
            }
            bargeCount = other.bargeCount;
            for (int i = 0; i < bargeCount; i++) {
                copyBarge(bargeAt(i), other.bargeAt(i));
            }
            night = other.night;
            arrived = other.arrived;
            fines = other.fines;
            rents = other.rents;
        }

        private static void copyWeir(Weir to, Weir from) {
            if (to != null && from != null) {
                to.copyFrom(from);
            }
        }

        private static void copyBarge(Barge to, Barge from) {
            if (to != null && from != null) {
                to.copyFrom(from);
            }
        }

        /** Returns null, if there is no such weir. */
        Weir weirAt(int number) {
            boolean there = number >= 0 && number < weirCount && number < weirs.length;
            return there ? weirs[number] : null;
        }

        /** Returns null, if there is no such barge. */
        Barge bargeAt(int number) {
            boolean there = number >= 0 && number < bargeCount && number < barges.length;
            return there ? barges[number] : null;
        }

        private int inOrder(int i) {
            return i >= 0 && i < order.length ? order[i] : NONE;
        }

        int tableEels(int i) {
            return i >= 0 && i < table.length ? table[i] : 0;
        }

        void setTableEels(int i, int eels) {
            if (i >= 0 && i < table.length) {
                table[i] = eels;
            }
        }

        /** Adds a weir where there is room for one, and returns its number. */
        int addWeir(int place, int stakes, int rent) {
            int number = weirCount;
            putInOrder(number, place);
            weirCount++;
            Weir added = weirAt(number);
            if (added != null) {
                added.makeNew(place, stakes, rent);
            }
            return number;
        }

        /** Puts a new weir behind all those that the run comes to before it. */
        private void putInOrder(int number, int place) {
            int at = number;
            while (at > 0 && at < order.length && isSeawardsOf(order[at - 1], place)) {
                order[at] = order[at - 1];
                at--;
            }
            if (at >= 0 && at < order.length) {
                order[at] = number;
            }
        }

        private boolean isSeawardsOf(int number, int place) {
            Weir weir = weirAt(number);
            return weir != null && weir.place < place;
        }

        /** Adds a barge where there is room for one, and returns its number. */
        int addBarge(int wide) {
            int number = bargeCount;
            bargeCount++;
            Barge added = bargeAt(number);
            if (added != null) {
                added.makeNew(arrived + number, wide);
            }
            return number;
        }

        boolean isUnderWay(int ticket) {
            for (int i = 0; i < bargeCount; i++) {
                Barge barge = bargeAt(i);
                if (barge != null && barge.ticket == ticket) {
                    return true;
                }
            }
            return false;
        }

        int moon() {
            int d = Math.floorMod(night, MOON_NIGHTS);
            if (d <= 3 || d >= 25) {
                return DARK_MOON;
            }
            return d <= 9 || d >= 19 ? HALF_MOON : FULL_MOON;
        }

        private int run() {
            int eels = tableEels(Math.floorMod(night, TABLE_NIGHTS));
            int moon = moon();
            if (moon == DARK_MOON) {
                return 3 * eels;
            }
            return moon == HALF_MOON ? 2 * eels : eels;
        }

        int fact(int what) {
            switch (what) {
                case 0: return night;
                case 1: return moon();
                case 2: return run();
                case 3: return weirCount;
                case 4: return heldWeirs();
                case 5: return bargeCount;
                case 6: return arrived;
                case 7: return fines;
                case 8: return rents;
                default: return allEels();
            }
        }

        int bargeFact(Barge barge, int what) {
            switch (what) {
                case 0: return barge.wide;
                case 1: return barge.place;
                case 2: return barge.broken;
                default: return nextInWay(barge);
            }
        }

        int heldWeirs() {
            int held = 0;
            for (int i = 0; i < weirCount; i++) {
                Weir weir = weirAt(i);
                if (weir != null && weir.isHeld()) {
                    held++;
                }
            }
            return held;
        }

        int heldWattle() {
            int wattle = 0;
            for (int i = 0; i < weirCount; i++) {
                Weir weir = weirAt(i);
                if (weir != null && weir.isHeld()) {
                    wattle += weir.wattle;
                }
            }
            return wattle;
        }

        private int allEels() {
            int eels = 0;
            for (int i = 0; i < weirCount; i++) {
                Weir weir = weirAt(i);
                if (weir != null) {
                    eels += weir.eels;
                }
            }
            return eels;
        }

        int weirsInWay(int wide) {
            int inWay = 0;
            for (int i = 0; i < weirCount; i++) {
                Weir weir = weirAt(i);
                if (weir != null && weir.isInWay(wide)) {
                    inWay++;
                }
            }
            return inWay;
        }

        int richestHeld() {
            int richest = NONE;
            int most = 0;
            for (int i = 0; i < weirCount; i++) {
                Weir weir = weirAt(i);
                if (weir != null && weir.isHeld() && (richest == NONE || weir.coins > most)) {
                    richest = i;
                    most = weir.coins;
                }
            }
            return richest;
        }

        /** Returns the number of the first weir beyond a barge that is in its way, or NONE. */
        private int nextInWay(Barge barge) {
            int next = NONE;
            int nearest = LAST_PLACE + 1;
            for (int i = 0; i < weirCount; i++) {
                Weir weir = weirAt(i);
                if (weir != null && weir.place > barge.place && weir.place < nearest
                        && weir.isInWay(barge.wide)) {
                    next = i;
                    nearest = weir.place;
                }
            }
            return next;
        }

        void goThroughNights(int nights) {
            for (int i = 0; i < nights; i++) {
                catchEels();
                moveBarges();
                leaveOutArrived();
                rotWattle();
                if (Math.floorMod(night, RENT_NIGHTS) == RENT_NIGHTS - 1) {
                    collectRents();
                }
                night++;
            }
        }

        void catchEels() {
            int left = run();
            for (int i = 0; i < weirCount; i++) {
                Weir weir = weirAt(inOrder(i));
                if (weir != null && weir.isFishing()) {
                    left -= weir.catchOf(left);
                }
            }
        }

        private void moveBarges() {
            for (int i = 0; i < bargeCount; i++) {
                Barge barge = bargeAt(i);
                if (barge != null) {
                    Weir next = weirAt(nextInWay(barge));
                    barge.goOn(next == null ? LAST_PLACE : next.place);
                    breakThrough(barge);
                }
            }
        }

        /** Breaks all weirs that are in the way of a barge at the place where it is. */
        private void breakThrough(Barge barge) {
            for (int i = 0; i < weirCount; i++) {
                Weir weir = weirAt(i);
                if (weir != null && weir.place == barge.place && weir.isInWay(barge.wide)) {
                    fines += weir.breakFor(barge.wide);
                    barge.broken++;
                }
            }
        }

        private void leaveOutArrived() {
            int kept = 0;
            for (int i = 0; i < bargeCount; i++) {
                Barge barge = bargeAt(i);
                if (barge != null && barge.place < LAST_PLACE) {
                    copyBarge(bargeAt(kept), barge);
                    kept++;
                }
            }
            arrived += bargeCount - kept;
            bargeCount = kept;
        }

        private void rotWattle() {
            int rotten = moon() == HALF_MOON ? 1 : 3;
            for (int i = 0; i < weirCount; i++) {
                Weir weir = weirAt(i);
                if (weir != null && weir.isHeld()) {
                    weir.loseWattle(rotten);
                }
            }
        }

        private void collectRents() {
            for (int i = 0; i < weirCount; i++) {
                Weir weir = weirAt(i);
                if (weir != null && weir.isHeld()) {
                    rents += weir.payRent();
                }
            }
        }
    }
}
