/** Peat bank shares by widows, cutters and dry stacks; what it must do stands in ../shared/DOC.md. */
public final class PeatHearths {
    /** There is nothing to return. */
    public static final int NONE = -1;

    private static final int HEARTHS = 5;
    private static final int BANKS = 4;
    private static final int PLOTS = HEARTHS * BANKS;
    private static final int CUTTERS = 6;
    private static final int SHARES_OF_A_BANK = 12;

    private static final int SETTINGS = 3;
    private static final int RAIN_SETTING = 0;
    private static final int GIFT_SETTING = 1;
    private static final int BURN_SETTING = 2;
    private static final int[] LOWEST_SETTING = {0, 0, 1};
    private static final int[] HIGHEST_SETTING = {9, 50, 30};

    private static final int MOST_DAYS = 60;
    private static final int DAYS_OF_ENOUGH = 200;
    private static final int DAYS_OF_BEST = 20;
    private static final int DAYS_OF_DIGEST = 10;
    private static final int MOST_SAVED = 6;
    private static final int MOST_SIGNS = 60;

    private final Land land = new Land();
    private final Land trial = new Land();
    private final Shelf saved = new Shelf(MOST_SAVED);
    private final Shelf snapshot = new Shelf(1);
    private final Text text = new Text();

    public PeatHearths() {
    }

    // ---- hearths, banks, cutters

    public int hearth(int hearth, boolean isWidow, int need)
            throws IndexOutOfBoundsException, IllegalArgumentException {
        requireIndex(hearth, HEARTHS);
        requireRange(need, 50, 900);
        saved.push(land);
        land.put(Land.WIDOW + hearth, isWidow ? 1 : 0);
        return land.swap(Land.NEED + hearth, need);
    }

    public int track(int bank, int carts) throws IndexOutOfBoundsException, IllegalArgumentException {
        requireIndex(bank, BANKS);
        requireRange(carts, 10, 90);
        saved.push(land);
        return land.swap(Land.CARTS + bank, carts);
    }

    public int strength(int cutter, int strength) throws IndexOutOfBoundsException, IllegalArgumentException {
        requireIndex(cutter, CUTTERS);
        requireRange(strength, 5, 40);
        saved.push(land);
        return land.swap(Land.STRENGTH + cutter, strength);
    }

    public int work(int cutter, int hearth, int bank) throws IndexOutOfBoundsException, IllegalStateException {
        requireIndex(cutter, CUTTERS);
        requireIndex(hearth, HEARTHS);
        requireIndex(bank, BANKS);
        requireState(land.reasonAgainst(hearth, bank) == 0);
        saved.push(land);
        land.setToWork(cutter, hearth, bank);
        return land.cuttersAt(hearth, bank);
    }

    public int rest(int cutter) throws IndexOutOfBoundsException {
        requireIndex(cutter, CUTTERS);
        saved.push(land);
        land.letRest(cutter);
        return land.cuttersAtWork();
    }

    public int give(int from, int to, int bank, int many)
            throws IndexOutOfBoundsException, IllegalArgumentException, IllegalStateException {
        requireHolder(from);
        requireHolder(to);
        requireIndex(bank, BANKS);
        requireRange(many, 1, SHARES_OF_A_BANK);
        requireArgument(from != to);
        int giver = Land.sharesPlace(from, bank);
        int getter = Land.sharesPlace(to, bank);
        requireState(land.at(giver) >= many);
        saved.push(land);
        land.add(giver, -many);
        land.add(getter, many);
        return land.at(getter);
    }

    public int snow() {
        saved.push(land);
        land.turnSnow();
        return land.at(Land.SNOW);
    }

    public int pass(int days) throws IllegalArgumentException {
        requireRange(days, 1, MOST_DAYS);
        saved.push(land);
        return land.passDays(days);
    }

    public int set(int setting, int value) throws IndexOutOfBoundsException, IllegalArgumentException {
        requireIndex(setting, SETTINGS);
        requireRange(value, LOWEST_SETTING[setting], HIGHEST_SETTING[setting]);
        saved.push(land);
        return land.swap(Land.SETTING + setting, value);
    }

    // ---- texts

    public int append(int code) throws IllegalArgumentException, IllegalStateException {
        requireRange(code, 33, 126);
        requireState(text.length() < MOST_SIGNS);
        text.push((char) code);
        return text.length();
    }

    public int clearBuffer() {
        int length = text.length();
        text.wipe();
        return length;
    }

    public int firstError() {
        return text.rightSigns();
    }

    public int play() throws IllegalArgumentException {
        requireArgument(text.isComplete());
        saved.push(land);
        int done = 0;
        for (int index = 0; index < text.length(); index++) {
            if (text.isPartBegin(index)) {
                if (!playPart(index)) {
                    break;
                }
                done++;
            }
        }
        text.wipe();
        return done;
    }

    // ---- undo, the snapshot

    public int undo() throws IllegalStateException {
        requireState(saved.size() > 0);
        saved.showTop(land);
        saved.dropTop();
        return saved.size();
    }

    public int keep() {
        snapshot.push(land);
        return land.at(Land.DAY);
    }

    public int restore() throws IllegalStateException {
        requireState(snapshot.size() > 0);
        saved.push(land);
        snapshot.showTop(land);
        return land.at(Land.DAY);
    }

    // ---- looks; nothing is changed

    public int hearthOf(int hearth, int what) throws IndexOutOfBoundsException, IllegalArgumentException {
        requireIndex(hearth, HEARTHS);
        requireRange(what, 0, 11);
        return land.ofHearth(hearth, what);
    }

    public int bankOf(int bank, int what) throws IndexOutOfBoundsException, IllegalArgumentException {
        requireIndex(bank, BANKS);
        requireRange(what, 0, 4);
        return land.ofBank(bank, what);
    }

    public int plot(int hearth, int bank, int what) throws IndexOutOfBoundsException, IllegalArgumentException {
        requireIndex(hearth, HEARTHS);
        requireIndex(bank, BANKS);
        requireRange(what, 0, 4);
        return land.ofPlot(hearth, bank, what);
    }

    public int cutter(int cutter, int what) throws IndexOutOfBoundsException, IllegalArgumentException {
        requireIndex(cutter, CUTTERS);
        requireRange(what, 0, 3);
        return land.ofCutter(cutter, what);
    }

    public int rain(int day) throws IllegalArgumentException {
        requireArgument(day >= 0);
        return land.rainOf(day);
    }

    public int count(int what) throws IllegalArgumentException {
        requireRange(what, 0, 12);
        return what == 12 ? saved.size() : land.ofAll(what);
    }

    public int whyNot(int cutter, int hearth, int bank) throws IndexOutOfBoundsException {
        requireIndex(cutter, CUTTERS);
        requireIndex(hearth, HEARTHS);
        requireIndex(bank, BANKS);
        return land.reasonAgainst(hearth, bank);
    }

    // ---- what would be; nothing is changed

    public int ifPassed(int days, int what) throws IllegalArgumentException {
        requireRange(days, 1, MOST_DAYS);
        requireRange(what, 0, 2);
        trial.copyFrom(land);
        int cameHome = trial.passDays(days);
        if (what == 0) {
            return cameHome;
        }
        if (what == 1) {
            return trial.hearthsShort();
        }
        return trial.sum(Land.LACKED, HEARTHS) - land.sum(Land.LACKED, HEARTHS);
    }

    public int enoughIn(int hearth) throws IndexOutOfBoundsException {
        requireIndex(hearth, HEARTHS);
        trial.copyFrom(land);
        for (int days = 0; days <= DAYS_OF_ENOUGH; days++) {
            if (trial.shortBy(hearth) == 0) {
                return days;
            }
            trial.passDays(1);
        }
        return NONE;
    }

    public int bestBank(int cutter, int hearth) throws IndexOutOfBoundsException {
        requireIndex(cutter, CUTTERS);
        requireIndex(hearth, HEARTHS);
        int best = NONE;
        int most = 0;
        for (int bank = 0; bank < BANKS; bank++) {
            if (land.reasonAgainst(hearth, bank) == 0) {
                trial.copyFrom(land);
                trial.setToWork(cutter, hearth, bank);
                trial.passDays(DAYS_OF_BEST);
                int home = trial.at(Land.HOME + hearth);
                if (best == NONE || home > most) {
                    best = bank;
                    most = home;
                }
            }
        }
        return best;
    }

    public double dryness() {
        int all = land.turvesOnBanks();
        if (all == 0) {
            return 1.0;
        }
        return (double) land.sum(Land.DRY, PLOTS) / (double) all;
    }

    public long digest() {
        long hash = 3739L;
        for (int what = 0; what <= 12; what++) {
            hash = 31L * hash + count(what);
        }
        for (int hearth = 0; hearth < HEARTHS; hearth++) {
            for (int what = 0; what <= 11; what++) {
                hash = 31L * hash + hearthOf(hearth, what);
            }
            for (int bank = 0; bank < BANKS; bank++) {
                for (int what = 0; what <= 4; what++) {
                    hash = 31L * hash + plot(hearth, bank, what);
                }
            }
            hash = 31L * hash + enoughIn(hearth);
            hash = 31L * hash + bestBank(0, hearth);
        }
        for (int bank = 0; bank < BANKS; bank++) {
            for (int what = 0; what <= 4; what++) {
                hash = 31L * hash + bankOf(bank, what);
            }
        }
        for (int cutter = 0; cutter < CUTTERS; cutter++) {
            for (int what = 0; what <= 3; what++) {
                hash = 31L * hash + cutter(cutter, what);
            }
        }
        for (int day = 0; day <= 9; day++) {
            hash = 31L * hash + rain(day);
        }
        for (int what = 0; what <= 2; what++) {
            hash = 31L * hash + ifPassed(DAYS_OF_DIGEST, what);
        }
        hash = 31L * hash + bitsOf(dryness());
        hash = 31L * hash + text.length();
        for (int index = 0; index < text.length(); index++) {
            hash = 31L * hash + text.signAt(index);
        }
        return hash;
    }

    // The bits are made by hand because LANGUAGE.md has no Double; scaling by 2 is exact.
    private static long bitsOf(double share) {
        if (share <= 0.0) {
            return 0L;
        }
        double scaled = share;
        long exponent = 1023L;
        for (int step = 0; step < 1022 && scaled < 1.0; step++) {
            scaled = scaled * 2.0;
            exponent--;
        }
        return (exponent << 52) + (long) ((scaled - 1.0) * 4503599627370496.0);
    }

    private boolean playPart(int begin) {
        char kind = text.signAt(begin);
        int first = text.numberAt(begin + 1);
        if (kind == 'c') {
            int hearth = text.numberAt(begin + 3);
            int bank = text.numberAt(begin + 5);
            if (land.reasonAgainst(hearth, bank) != 0) {
                return false;
            }
            land.setToWork(first, hearth, bank);
        } else if (kind == 'r') {
            land.letRest(first);
        } else if (kind == '+') {
            land.passDays(first);
        } else {
            land.turnSnow();
        }
        return true;
    }

    private static void requireIndex(int index, int size) {
        if (index < 0 || index >= size) {
            throw new IndexOutOfBoundsException("there is no such number");
        }
    }

    private static void requireHolder(int holder) {
        if (holder != NONE) {
            requireIndex(holder, HEARTHS);
        }
    }

    private static void requireRange(int value, int lowest, int highest) {
        requireArgument(value >= lowest && value <= highest);
    }

    private static void requireArgument(boolean isRight) {
        if (!isRight) {
            throw new IllegalArgumentException("the argument is not right");
        }
    }

    private static void requireState(boolean isPossible) {
        if (!isPossible) {
            throw new IllegalStateException("that is not possible now");
        }
    }

    /** Hearths, banks, cutters, the weather and what is counted; one row of numbers, so that to save it is one copy. */
    private static final class Land {
        // Where a number stands in the row; behind the first two the number of the
        // setting, hearth, bank, plot or cutter is added.
        static final int DAY = 0;
        static final int SNOW = DAY + 1;
        static final int SETTING = SNOW + 1;
        static final int WIDOW = SETTING + SETTINGS;
        static final int NEED = WIDOW + HEARTHS;
        static final int HOME = NEED + HEARTHS;
        static final int CUT = HOME + HEARTHS;
        static final int GIVEN = CUT + HEARTHS;
        static final int GAVE = GIVEN + HEARTHS;
        static final int BURNT = GAVE + HEARTHS;
        static final int LACKED = BURNT + HEARTHS;
        static final int UNCUT = LACKED + HEARTHS;
        static final int CARTS = UNCUT + BANKS;
        static final int COMMONS = CARTS + BANKS;
        static final int SHARES = COMMONS + BANKS;
        static final int WET = SHARES + PLOTS;
        static final int FOOTED = WET + PLOTS;
        static final int DRY = FOOTED + PLOTS;
        static final int STRENGTH = DRY + PLOTS;
        static final int AT_HEARTH = STRENGTH + CUTTERS;
        static final int AT_BANK = AT_HEARTH + CUTTERS;
        static final int CUT_BY = AT_BANK + CUTTERS;
        static final int SIZE = CUT_BY + CUTTERS;

        private final int[] row = new int[SIZE];

        Land() {
            put(SETTING + RAIN_SETTING, 3);
            put(SETTING + GIFT_SETTING, 10);
            put(SETTING + BURN_SETTING, 8);
            for (int hearth = 0; hearth < HEARTHS; hearth++) {
                put(NEED + hearth, 300);
            }
            put(WIDOW + HEARTHS - 1, 1);
            for (int bank = 0; bank < BANKS; bank++) {
                put(UNCUT + bank, 2000);
                put(CARTS + bank, 40);
                put(COMMONS + bank, SHARES_OF_A_BANK);
                for (int hearth = 0; hearth < HEARTHS - 1; hearth++) {
                    if (hearth != bank) {
                        put(SHARES + plotOf(hearth, bank), 3);
                        add(COMMONS + bank, -3);
                    }
                }
            }
            for (int cutter = 0; cutter < CUTTERS; cutter++) {
                put(STRENGTH + cutter, 10 + 2 * cutter);
                letRest(cutter);
            }
        }

        int at(int place) {
            return place >= 0 && place < row.length ? row[place] : 0;
        }

        void put(int place, int value) {
            if (place >= 0 && place < row.length) {
                row[place] = value;
            }
        }

        void add(int place, int many) {
            put(place, at(place) + many);
        }

        int swap(int place, int value) {
            int before = at(place);
            put(place, value);
            return before;
        }

        int sum(int place, int many) {
            int sum = 0;
            for (int step = 0; step < many; step++) {
                sum += at(place + step);
            }
            return sum;
        }

        void copyFrom(Land other) {
            for (int place = 0; place < SIZE; place++) {
                put(place, other.at(place));
            }
        }

        static int plotOf(int hearth, int bank) {
            return hearth * BANKS + bank;
        }

        static int sharesPlace(int holder, int bank) {
            return holder == NONE ? COMMONS + bank : SHARES + plotOf(holder, bank);
        }

        // ---- cutters and snow

        int cuttersAt(int hearth, int bank) {
            int many = 0;
            for (int cutter = 0; cutter < CUTTERS; cutter++) {
                if (at(AT_HEARTH + cutter) == hearth && at(AT_BANK + cutter) == bank) {
                    many++;
                }
            }
            return many;
        }

        int cuttersOnBank(int bank) {
            int many = 0;
            for (int hearth = 0; hearth < HEARTHS; hearth++) {
                many += cuttersAt(hearth, bank);
            }
            return many;
        }

        int cuttersAtWork() {
            int many = 0;
            for (int bank = 0; bank < BANKS; bank++) {
                many += cuttersOnBank(bank);
            }
            return many;
        }

        // More cutters than shares are possible, for they stay when shares are given away.
        int reasonAgainst(int hearth, int bank) {
            int shares = at(SHARES + plotOf(hearth, bank));
            if (shares == 0) {
                return 1;
            }
            if (cuttersAt(hearth, bank) >= shares) {
                return 2;
            }
            if (at(UNCUT + bank) == 0) {
                return 3;
            }
            return at(SNOW) == 1 ? 4 : 0;
        }

        void setToWork(int cutter, int hearth, int bank) {
            put(AT_HEARTH + cutter, hearth);
            put(AT_BANK + cutter, bank);
        }

        void letRest(int cutter) {
            setToWork(cutter, NONE, NONE);
        }

        void turnSnow() {
            put(SNOW, 1 - at(SNOW));
            if (at(SNOW) == 1) {
                for (int cutter = 0; cutter < CUTTERS; cutter++) {
                    letRest(cutter);
                }
            }
        }

        // ---- a day

        // The day is taken modulo 10 first, for 7 times a late day is more than an int holds.
        int rainOf(int day) {
            return Math.floorMod(7 * Math.floorMod(day, 10) + at(SETTING + RAIN_SETTING), 10);
        }

        int passDays(int days) {
            int cameHome = 0;
            for (int step = 0; step < days; step++) {
                add(DAY, 1);
                if (at(SNOW) == 1) {
                    weather(0);
                    burn();
                } else {
                    cutTurves();
                    weather(rainOf(at(DAY)));
                    cameHome += goCarts();
                }
            }
            return cameHome;
        }

        private void cutTurves() {
            for (int cutter = 0; cutter < CUTTERS; cutter++) {
                int hearth = at(AT_HEARTH + cutter);
                int bank = at(AT_BANK + cutter);
                if (hearth != NONE && bank != NONE) {
                    int many = Math.min(at(STRENGTH + cutter), at(UNCUT + bank));
                    add(UNCUT + bank, -many);
                    add(WET + plotOf(hearth, bank), many);
                    add(CUT + hearth, many);
                    add(CUT_BY + cutter, many);
                }
            }
        }

        private void weather(int rain) {
            if (rain > 3 && rain <= 6) {
                return;
            }
            for (int plot = 0; plot < PLOTS; plot++) {
                // Most plots are empty, and enoughIn passes 200 days over them.
                if (turvesOn(plot, 1, 1) == 0) {
                    continue;
                }
                if (rain > 6) {
                    wetAgain(plot);
                } else {
                    dryOut(plot);
                }
            }
        }

        private void wetAgain(int plot) {
            int fromFooted = halfRoundedUp(at(FOOTED + plot));
            int fromDry = halfRoundedUp(at(DRY + plot));
            add(FOOTED + plot, -fromFooted);
            add(DRY + plot, -fromDry);
            add(WET + plot, fromFooted + fromDry);
        }

        private void dryOut(int plot) {
            int footed = at(FOOTED + plot);
            int drying = Math.min(footed / 3 + 1, footed);
            int setUp = halfRoundedUp(at(WET + plot));
            add(WET + plot, -setUp);
            add(FOOTED + plot, setUp - drying);
            add(DRY + plot, drying);
        }

        private static int halfRoundedUp(int many) {
            return (many + 1) / 2;
        }

        private int goCarts() {
            int first = Math.floorMod(at(DAY), HEARTHS);
            int cameHome = 0;
            for (int bank = 0; bank < BANKS; bank++) {
                int left = at(CARTS + bank);
                for (int step = 0; step < HEARTHS; step++) {
                    int carted = cartHome((first + step) % HEARTHS, bank, left);
                    left -= carted;
                    cameHome += carted;
                }
            }
            return cameHome;
        }

        private int cartHome(int hearth, int bank, int left) {
            int carted = Math.min(at(DRY + plotOf(hearth, bank)), left);
            if (carted == 0) {
                return 0;
            }
            add(DRY + plotOf(hearth, bank), -carted);
            add(HOME + hearth, carted);
            int widow = at(WIDOW + hearth) == 1 ? NONE : poorestWidow();
            if (widow != NONE) {
                int gift = carted * at(SETTING + GIFT_SETTING) / 100;
                add(HOME + hearth, -gift);
                add(GAVE + hearth, gift);
                add(HOME + widow, gift);
                add(GIVEN + widow, gift);
            }
            return carted;
        }

        private int poorestWidow() {
            int poorest = NONE;
            for (int hearth = 0; hearth < HEARTHS; hearth++) {
                if (at(WIDOW + hearth) == 1 && (poorest == NONE || at(HOME + hearth) < at(HOME + poorest))) {
                    poorest = hearth;
                }
            }
            return poorest;
        }

        private void burn() {
            for (int hearth = 0; hearth < HEARTHS; hearth++) {
                int wanted = at(SETTING + BURN_SETTING);
                int burning = Math.min(wanted, at(HOME + hearth));
                add(HOME + hearth, -burning);
                add(BURNT + hearth, burning);
                add(LACKED + hearth, wanted - burning);
            }
        }

        // ---- looks

        // The plots of a hearth stand side by side, those of a bank are BANKS apart.
        int turvesOn(int firstPlot, int apart, int plots) {
            int many = 0;
            for (int step = 0; step < plots; step++) {
                int plot = firstPlot + step * apart;
                many += at(WET + plot) + at(FOOTED + plot) + at(DRY + plot);
            }
            return many;
        }

        int turvesOnBanks() {
            return turvesOn(0, 1, PLOTS);
        }

        int shortBy(int hearth) {
            return Math.max(0, at(NEED + hearth) - at(HOME + hearth));
        }

        int willBeShortBy(int hearth) {
            return Math.max(0, at(NEED + hearth) - at(HOME + hearth) - turvesOn(plotOf(hearth, 0), 1, BANKS));
        }

        int willBeShortByTheBook(int hearth) {
            int got = at(CUT + hearth) + at(GIVEN + hearth);
            int parted = at(GAVE + hearth) + at(BURNT + hearth);
            return Math.max(0, at(NEED + hearth) - (got - parted));
        }

        int hearthsShort() {
            int many = 0;
            for (int hearth = 0; hearth < HEARTHS; hearth++) {
                many += shortBy(hearth) > 0 ? 1 : 0;
            }
            return many;
        }

        int hearthsThatWillBeShort() {
            int many = 0;
            for (int hearth = 0; hearth < HEARTHS; hearth++) {
                many += willBeShortBy(hearth) > 0 ? 1 : 0;
            }
            return many;
        }

        int ofHearth(int hearth, int what) {
            switch (what) {
                case 0: return at(WIDOW + hearth);
                case 1: return at(NEED + hearth);
                case 2: return at(HOME + hearth);
                case 3: return turvesOn(plotOf(hearth, 0), 1, BANKS);
                case 4: return shortBy(hearth);
                case 5: return willBeShortBy(hearth);
                case 6: return willBeShortByTheBook(hearth);
                case 7: return at(CUT + hearth);
                case 8: return at(GIVEN + hearth);
                case 9: return at(GAVE + hearth);
                case 10: return at(BURNT + hearth);
                default: return at(LACKED + hearth);
            }
        }

        int ofBank(int bank, int what) {
            switch (what) {
                case 0: return at(UNCUT + bank);
                case 1: return at(CARTS + bank);
                case 2: return at(COMMONS + bank);
                case 3: return cuttersOnBank(bank);
                default: return turvesOn(plotOf(0, bank), BANKS, HEARTHS);
            }
        }

        int ofPlot(int hearth, int bank, int what) {
            int plot = plotOf(hearth, bank);
            switch (what) {
                case 0: return at(SHARES + plot);
                case 1: return at(WET + plot);
                case 2: return at(FOOTED + plot);
                case 3: return at(DRY + plot);
                default: return cuttersAt(hearth, bank);
            }
        }

        int ofCutter(int cutter, int what) {
            switch (what) {
                case 0: return at(STRENGTH + cutter);
                case 1: return at(AT_HEARTH + cutter);
                case 2: return at(AT_BANK + cutter);
                default: return at(CUT_BY + cutter);
            }
        }

        int ofAll(int what) {
            switch (what) {
                case 0: return at(DAY);
                case 1: return at(SNOW);
                case 2: return cuttersAtWork();
                case 3: return sum(UNCUT, BANKS);
                case 4: return turvesOnBanks();
                case 5: return sum(HOME, HEARTHS);
                case 6: return sum(BURNT, HEARTHS);
                case 7: return hearthsShort();
                case 8: return hearthsThatWillBeShort();
                case 9: return at(SETTING + RAIN_SETTING);
                case 10: return at(SETTING + GIFT_SETTING);
                default: return at(SETTING + BURN_SETTING);
            }
        }
    }

    /** States of the land, the latest on top; where there is no room for one more, the oldest is dropped. */
    private static final class Shelf {
        private final int[] rows;
        private final int most;
        private int top;
        private int many;

        Shelf(int most) {
            this.most = Math.max(1, Math.min(most, MOST_SAVED));
            this.rows = new int[this.most * Land.SIZE];
        }

        int size() {
            return many;
        }

        void push(Land land) {
            top = top + 1 < most ? top + 1 : 0;
            many = Math.min(many + 1, most);
            int begin = top * Land.SIZE;
            for (int place = 0; place < Land.SIZE; place++) {
                if (isInside(begin + place)) {
                    rows[begin + place] = land.at(place);
                }
            }
        }

        void showTop(Land land) {
            int begin = top * Land.SIZE;
            for (int place = 0; place < Land.SIZE; place++) {
                if (isInside(begin + place)) {
                    land.put(place, rows[begin + place]);
                }
            }
        }

        void dropTop() {
            top = top > 0 ? top - 1 : most - 1;
            many = Math.max(0, many - 1);
        }

        private boolean isInside(int index) {
            return index >= 0 && index < rows.length;
        }
    }

    /** The buffer, and what works as a text are. */
    private static final class Text {
        // What a text has just read; behind ONE_TO_FIVE and SIX a number of days may go on.
        private static final int NOTHING = 0;
        private static final int LETTER_C = 1;
        private static final int CUTTER_OF_C = 2;
        private static final int ARROW = 3;
        private static final int HEARTH = 4;
        private static final int SLASH = 5;
        private static final int LETTER_R = 6;
        private static final int PLUS = 7;
        private static final int ONE_TO_FIVE = 8;
        private static final int SIX = 9;
        private static final int WHOLE_PART = 10;
        private static final int WRONG = 11;

        private final char[] signs = new char[MOST_SIGNS];
        private int length;

        int length() {
            return length;
        }

        void push(char sign) {
            if (length >= 0 && length < signs.length) {
                signs[length] = sign;
                length++;
            }
        }

        void wipe() {
            length = 0;
        }

        char signAt(int index) {
            return index >= 0 && index < length && index < signs.length ? signs[index] : ' ';
        }

        int rightSigns() {
            int read = NOTHING;
            for (int index = 0; index < length; index++) {
                read = readNext(read, signAt(index));
                if (read == WRONG) {
                    return index;
                }
            }
            return length;
        }

        boolean isComplete() {
            int read = NOTHING;
            for (int index = 0; index < length; index++) {
                read = readNext(read, signAt(index));
            }
            return endsPart(read);
        }

        boolean isPartBegin(int index) {
            return index == 0 || signAt(index - 1) == ';';
        }

        int numberAt(int index) {
            if (!isDigit(signAt(index), 9)) {
                return 0;
            }
            int number = signAt(index) - '0';
            return isDigit(signAt(index + 1), 9) ? 10 * number + signAt(index + 1) - '0' : number;
        }

        private static int readNext(int read, char sign) {
            if (endsPart(read) && sign == ';') {
                return NOTHING;
            }
            switch (read) {
                case NOTHING: return beginPart(sign);
                case LETTER_C: return isDigit(sign, CUTTERS - 1) ? CUTTER_OF_C : WRONG;
                case CUTTER_OF_C: return sign == '>' ? ARROW : WRONG;
                case ARROW: return isDigit(sign, HEARTHS - 1) ? HEARTH : WRONG;
                case HEARTH: return sign == '/' ? SLASH : WRONG;
                case SLASH: return isDigit(sign, BANKS - 1) ? WHOLE_PART : WRONG;
                case LETTER_R: return isDigit(sign, CUTTERS - 1) ? WHOLE_PART : WRONG;
                case PLUS: return beginDays(sign);
                case ONE_TO_FIVE: return isDigit(sign, 9) ? WHOLE_PART : WRONG;
                case SIX: return sign == '0' ? WHOLE_PART : WRONG;
                default: return WRONG;
            }
        }

        private static int beginPart(char sign) {
            switch (sign) {
                case 'c': return LETTER_C;
                case 'r': return LETTER_R;
                case '+': return PLUS;
                case '*': return WHOLE_PART;
                default: return WRONG;
            }
        }

        private static int beginDays(char sign) {
            if (sign == '0' || !isDigit(sign, 9)) {
                return WRONG;
            }
            if (sign == '6') {
                return SIX;
            }
            return sign < '6' ? ONE_TO_FIVE : WHOLE_PART;
        }

        private static boolean endsPart(int read) {
            return read == WHOLE_PART || read == ONE_TO_FIVE || read == SIX;
        }

        private static boolean isDigit(char sign, int highest) {
            return sign >= '0' && sign <= '0' + highest;
        }
    }
}
