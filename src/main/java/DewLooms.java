/** Dew by the thread: what hangs on the looms of a slope, hour by hour, and what may come of it. */
public final class DewLooms {
    public static final int BAD = -1, NO = -2, FULL = -3, NONE = -4;

    private static final String FIRST_TEXT =
        "l0,0,3;l1,2,2;l2,3,3;l3,5,4;l0,8,2;h3,0;h5,0;h2,1;h0,1;s3;m6;y5;";

    private static final int MOST_LETTERS = 200;
    private static final int FIRST_LETTER = 32;
    private static final int LAST_LETTER = 126;
    private static final int MOST_NUMBERS = 3;

    private static final int MOST_LOOMS = 6;
    private static final int MOST_KINDS = 4;
    private static final int MOST_PLACES = 10;
    private static final int MOST_THREADS = 9;
    private static final int DROPS_A_THREAD = 3;
    private static final int MOST_DROPS = DROPS_A_THREAD * MOST_THREADS;
    private static final int SPIDERS = 1;
    private static final int BRIDES = 2;
    private static final int SHEET = 3;

    private static final int MOST_HOURS_TOLD = 12;
    private static final int MOST_COLD = 9;
    private static final int LAST_HOUR = 99;
    private static final int LATEST_SUN = 20;
    private static final int LATEST_MERCHANTS = 24;
    private static final int COLD_UNTOLD = 4;
    private static final int SUN_UNTOLD = 6;
    private static final int MERCHANTS_UNTOLD = 9;
    private static final int YARD_UNTOLD = 6;

    private static final int MOST_HOURS_A_CALL = 24;
    private static final int MOST_ACTS = 8;
    private static final int MOST_KEPT = 2;
    private static final int MOST_THREADS_MORE = 9;
    private static final int MOST_WAYS = 720;
    private static final int MOST_SEEN = 6;
    private static final int MOST_SEEN_HOURS = 12;
    private static final int AS_IT_IS = 64;

    private static final int MOST_LIKELY_HOURS = 6;
    private static final int TENTHS = 10;
    private static final int MOST_YEARS = 9999;
    private static final int MOST_YEAR_HOURS = 40;
    private static final int DRAW_MODULUS = 65521;
    private static final int DRAW_BY_YEAR = 7919;
    private static final int DRAW_BY_HOUR = 6151;
    private static final int DRAWN_ACTS = 5;

    private final Text text = new Text();
    private final Reader reader = new Reader();
    private final Slope now = new Slope();
    private final Slope trial = new Slope();
    private final Pile acts = new Pile(MOST_ACTS);
    private final Pile kept = new Pile(MOST_KEPT);
    private final Sights sights = new Sights();
    private final Ways ways = new Ways();
    private Night night = new Night();
    private Night draft = new Night();

    public DewLooms() {
        for (int i = 0; i < FIRST_TEXT.length(); i++) {
            text.append(FIRST_TEXT.charAt(i));
        }
        layText();
        text.clear();
    }

    // ---- nights

    public int write(int letter) {
        if (isOutside(letter, FIRST_LETTER, LAST_LETTER)) {
            return BAD;
        }
        if (text.isFull()) {
            return FULL;
        }
        text.append((char) letter);
        return text.many;
    }

    public int wipe() {
        int letters = text.many;
        text.clear();
        return letters;
    }

    public int fault() {
        return reader.read(text, draft);
    }

    public int lay() {
        return layText();
    }

    public int loom(int l, int what) {
        if (isNoLoom(l) || isOutside(what, 0, 5)) {
            return BAD;
        }
        return now.pick(l).tell(what);
    }

    public int hour(int h, int what) {
        if (isOutside(h, 0, LAST_HOUR) || isOutside(what, 0, 1)) {
            return BAD;
        }
        return what == 0 ? night.coldOf(h) : night.mistOf(h);
    }

    public int at(int p) {
        if (isNoPlace(p)) {
            return BAD;
        }
        return now.loomOn(p);
    }

    // ---- acts

    public int pass(int n) {
        if (isOutside(n, 1, MOST_HOURS_A_CALL)) {
            return BAD;
        }
        if (now.hour + n > LAST_HOUR) {
            return NO;
        }
        acts.put(now);
        night.goBy(now, n);
        return now.allDrops();
    }

    public int shade(int l) {
        if (isNoLoom(l)) {
            return BAD;
        }
        acts.put(now);
        now.pick(l).turnShade();
        return now.pick(l).shaded ? 1 : 0;
    }

    public int cow(int l) {
        if (isNoLoom(l)) {
            return BAD;
        }
        if (now.pick(l).drops == 0) {
            return NO;
        }
        acts.put(now);
        now.pick(l).feelCow();
        return now.pick(l).drops;
    }

    public int tears(int l) {
        if (isNoLoom(l)) {
            return BAD;
        }
        if (now.pick(l).drops >= now.pick(l).holds()) {
            return NO;
        }
        acts.put(now);
        now.pick(l).takeTears();
        return now.pick(l).drops;
    }

    public int set(int l, int p) {
        if (isNoLoom(l) || isNoPlace(p)) {
            return BAD;
        }
        if (now.loomOn(p) != NONE) {
            return NO;
        }
        acts.put(now);
        int old = now.pick(l).place;
        now.pick(l).place = p;
        now.rank();
        return old;
    }

    public int undo() {
        if (acts.many == 0) {
            return NO;
        }
        acts.takeInto(now);
        return acts.many;
    }

    // ---- what comes

    public int behind(int n, int l, int what) {
        if (isOutside(n, 0, MOST_HOURS_A_CALL) || isNoLoom(l) || isOutside(what, 0, 1)) {
            return BAD;
        }
        trial.copy(now);
        night.goBy(trial, n);
        return what == 0 ? trial.pick(l).drops : trial.pick(l).spoiled;
    }

    public int yards() {
        trial.copy(now);
        return yardsOfTrial();
    }

    public int setting(int k) {
        if (isOutside(k, -1, now.many - 1)) {
            return BAD;
        }
        int spoiledByNow = now.allSpoiled();
        ways.begin(now);
        boolean more = true;
        for (int i = 0; more && i < MOST_WAYS; i++) {
            trial.copy(now);
            ways.applyTo(trial);
            int yards = Integer.bitCount(yardsOfTrial());
            if (trial.allSpoiled() == spoiledByNow) {
                ways.weigh(yards);
            }
            more = ways.goOn();
        }
        if (!ways.isFound()) {
            return NONE;
        }
        return k < 0 ? ways.bestYards : ways.bestPlace(k);
    }

    public int shading(int what) {
        if (isOutside(what, 0, 1)) {
            return BAD;
        }
        int shaded = now.shades();
        int bestSet = 0;
        shadeTrial(bestSet);
        int bestYards = Integer.bitCount(yardsOfTrial());
        for (int set = 1; set < 1 << now.many; set++) {
            if ((set & shaded) != 0) {
                continue;
            }
            shadeTrial(set);
            int yards = Integer.bitCount(yardsOfTrial());
            boolean fewer = Integer.bitCount(set) < Integer.bitCount(bestSet);
            if (yards > bestYards || yards == bestYards && fewer) {
                bestYards = yards;
                bestSet = set;
            }
        }
        return what == 0 ? bestYards : bestSet;
    }

    public int wants(int l) {
        if (isNoLoom(l)) {
            return BAD;
        }
        for (int more = 0; more <= MOST_THREADS_MORE; more++) {
            trial.copy(now);
            trial.pick(l).threads += more;
            if (hasBit(yardsOfTrial(), l)) {
                return more;
            }
        }
        return NONE;
    }

    public int drips(int l) {
        if (isNoLoom(l)) {
            return BAD;
        }
        int above = now.nextAbove(l);
        trial.copy(now);
        night.goBy(trial, 1);
        return above != NONE && trial.pick(above).ranDown > 0 ? above : NONE;
    }

    // ---- what was seen

    public int seen(int l, int n, int t) {
        if (isNoLoom(l) || isOutside(n, 0, MOST_DROPS) || isOutside(t, 0, MOST_SEEN_HOURS)) {
            return BAD;
        }
        if (sights.isFull()) {
            return FULL;
        }
        sights.put(l, n, t);
        return sights.many;
    }

    public int forget() {
        int were = sights.many;
        sights.clear();
        return were;
    }

    public int cows() {
        trial.copy(now);
        int bits = isAllSeenSo(ownNextCold()) ? AS_IT_IS : 0;
        for (int l = 0; l < now.many; l++) {
            trial.copy(now);
            trial.pick(l).feelCow();
            if (isAllSeenSo(ownNextCold())) {
                bits |= 1 << l;
            }
        }
        return bits;
    }

    public int colds() {
        int bits = 0;
        for (int cold = 0; cold <= MOST_COLD; cold++) {
            trial.copy(now);
            if (isAllSeenSo(cold)) {
                bits |= 1 << cold;
            }
        }
        return bits;
    }

    // ---- chances, years

    public int likely(int l, int n, int x, int part) {
        if (isNoLoom(l) || isOutside(n, 0, MOST_LIKELY_HOURS)
                || isOutside(x, 0, TENTHS) || isOutside(part, 0, 1)) {
            return BAD;
        }
        int above = chancesOfYard(l, n, x);
        int below = power(TENTHS, n);
        // Tens have no other prime factors than these, and n of each.
        int shared = sharedPower(above, 2, n) * sharedPower(above, 5, n);
        return (part == 0 ? above : below) / Math.max(1, shared);
    }

    public int year(int z, int n, int what) {
        if (isOutside(z, 0, MOST_YEARS) || isOutside(n, 1, MOST_YEAR_HOURS)
                || isOutside(what, 0, 2)) {
            return BAD;
        }
        trial.copy(now);
        for (int i = 0; i < n; i++) {
            actByDraw(draw(z, i));
            night.goBy(trial, 1);
        }
        switch (what) {
            case 0: return Integer.bitCount(trial.yardBits(night.yard));
            case 1: return trial.ranOff;
            default: return trial.allSpoiled();
        }
    }

    // ---- kept

    public int keep() {
        if (kept.isFull()) {
            return FULL;
        }
        kept.put(now);
        return kept.many;
    }

    public int back() {
        if (kept.many == 0) {
            return NO;
        }
        kept.takeInto(now);
        acts.clear();
        return kept.many;
    }

    public int count(int what) {
        switch (what) {
            case 0: return now.many;
            case 1: return now.hour;
            case 2: return now.allDrops();
            case 3: return now.ranOff;
            case 4: return now.allSpoiled();
            case 5: return Integer.bitCount(now.shades());
            case 6: return Integer.bitCount(now.yardBits(night.yard));
            case 7: return sights.many;
            case 8: return acts.many;
            case 9: return kept.many;
            case 10: return text.many;
            default: return BAD;
        }
    }

    private int layText() {
        if (reader.read(text, draft) != NONE || draft.start.many == 0) {
            return NO;
        }
        Night laid = draft;
        draft = night;
        night = laid;
        now.copy(night.start);
        sights.clear();
        acts.clear();
        kept.clear();
        return now.many;
    }

    private boolean isNoLoom(int l) {
        return isOutside(l, 0, now.many - 1);
    }

    private static boolean isNoPlace(int p) {
        return isOutside(p, 0, MOST_PLACES - 1);
    }

    private static boolean isOutside(int number, int least, int most) {
        return number < least || number > most;
    }

    private static boolean hasBit(int bits, int bit) {
        return (bits >> bit & 1) == 1;
    }

    /** Of how the trial stands, which goes on till the merchants come. */
    private int yardsOfTrial() {
        night.goBy(trial, hoursTillMerchants());
        return trial.yardBits(night.yard);
    }

    private int hoursTillMerchants() {
        return Math.max(0, night.merchants - now.hour);
    }

    private void shadeTrial(int set) {
        trial.copy(now);
        for (int l = 0; l < now.many; l++) {
            if (hasBit(set, l)) {
                trial.pick(l).shaded = true;
            }
        }
    }

    private int ownNextCold() {
        return night.coldOf(now.hour);
    }

    /** From how the trial stands, which goes on by it; the next hour has the cold that is given. */
    private boolean isAllSeenSo(int nextCold) {
        int cold = nextCold;
        for (int t = 0; t <= MOST_SEEN_HOURS; t++) {
            if (!sights.isSo(trial, t)) {
                return false;
            }
            night.goByOne(trial, cold, night.mistOf(trial.hour));
            cold = night.coldOf(trial.hour);
        }
        return true;
    }

    /** How many of ten to the n-th chances leave a yard or more on the loom behind n hours. */
    private int chancesOfYard(int l, int n, int x) {
        int chances = 0;
        for (int mists = 0; mists < 1 << n; mists++) {
            trial.copy(now);
            for (int i = 0; i < n; i++) {
                night.goByOne(trial, night.coldOf(trial.hour), mists >> i & 1);
            }
            if (hasBit(trial.yardBits(night.yard), l)) {
                int misty = Integer.bitCount(mists);
                chances += power(x, misty) * power(TENTHS - x, n - misty);
            }
        }
        return chances;
    }

    private static int power(int base, int exponent) {
        int product = 1;
        for (int i = 0; i < exponent; i++) {
            product *= base;
        }
        return product;
    }

    /** The highest power of a prime, most times at most, that divides a number. */
    private static int sharedPower(int number, int prime, int most) {
        int shared = 1;
        for (int i = 0; i < most; i++) {
            int next = shared * prime;
            if (next <= 0 || number % next != 0) {
                return shared;
            }
            shared = next;
        }
        return shared;
    }

    private static int draw(int z, int i) {
        long x = (long) DRAW_BY_YEAR * z + (long) DRAW_BY_HOUR * i + 1;
        return (int) (x * x % DRAW_MODULUS / 2);
    }

    private void actByDraw(int draw) {
        Loom loom = trial.pick(draw % Math.max(1, trial.many));
        switch (draw / 8 % DRAWN_ACTS) {
            case 0: loom.feelCow(); break;
            case 1: loom.takeTears(); break;
            case 2: loom.turnShade(); break;
            default: break;
        }
    }

    /** The letters written so far. */
    private static final class Text {
        private final char[] letters = new char[MOST_LETTERS];
        private int many;

        void clear() {
            many = 0;
        }

        boolean isFull() {
            return many >= letters.length;
        }

        void append(char letter) {
            if (many >= 0 && many < letters.length) {
                letters[many] = letter;
                many++;
            }
        }

        /** A letter, or 0, which no text has, behind the last one. */
        int letterOn(int place) {
            if (place < 0 || place >= many || place >= letters.length) {
                return 0;
            }
            return letters[place];
        }
    }

    /** Reads a text item by item into a night, as far as it is without fault. */
    private static final class Reader {
        private final int[] numbers = new int[MOST_NUMBERS];
        private int place;

        /** The place of the first letter of the first item that is not so, or NONE. */
        int read(Text text, Night night) {
            night.clear();
            place = 0;
            for (int items = 0; items < MOST_LETTERS && place < text.many; items++) {
                int first = place;
                int letter = text.letterOn(first);
                place++;
                if (!readNumbers(text, numbersBehind(letter)) || !tellNight(night, letter)) {
                    return first;
                }
            }
            return NONE;
        }

        private static int numbersBehind(int letter) {
            switch (letter) {
                case 'l': return 3;
                case 'h': return 2;
                case 's': return 1;
                case 'm': return 1;
                case 'y': return 1;
                default: return 0;
            }
        }

        private boolean readNumbers(Text text, int many) {
            for (int i = 0; i < many && i < numbers.length; i++) {
                if (!isFigure(text.letterOn(place))) {
                    return false;
                }
                numbers[i] = readNumber(text);
                int due = i + 1 < many ? ',' : ';';
                if (text.letterOn(place) != due) {
                    return false;
                }
                place++;
            }
            return many > 0;
        }

        /** Of two figures at most: a third one is then no sign that is due. */
        private int readNumber(Text text) {
            int number = text.letterOn(place) - '0';
            place++;
            if (isFigure(text.letterOn(place))) {
                number = number * 10 + (text.letterOn(place) - '0');
                place++;
            }
            return number;
        }

        private static boolean isFigure(int letter) {
            return letter >= '0' && letter <= '9';
        }

        private boolean tellNight(Night night, int letter) {
            switch (letter) {
                case 'l': return night.start.addLoom(numbers[0], numbers[1], numbers[2]);
                case 'h': return night.addHour(numbers[0], numbers[1]);
                case 's': return night.tellSun(numbers[0]);
                case 'm': return night.tellMerchants(numbers[0]);
                default: return night.tellYard(numbers[0]);
            }
        }
    }

    /** What a text tells: the looms as they stand at first, the hours, the sun, the merchants. */
    private static final class Night {
        private final Slope start = new Slope();
        private final int[] colds = new int[MOST_HOURS_TOLD];
        private final int[] mists = new int[MOST_HOURS_TOLD];
        private int hoursTold;
        private int sun;
        private int merchants;
        private int yard;

        void clear() {
            start.clear();
            hoursTold = 0;
            sun = SUN_UNTOLD;
            merchants = MERCHANTS_UNTOLD;
            yard = YARD_UNTOLD;
        }

        boolean addHour(int cold, int mist) {
            if (isOutside(hoursTold, 0, MOST_HOURS_TOLD - 1)
                    || isOutside(cold, 0, MOST_COLD) || isOutside(mist, 0, 1)) {
                return false;
            }
            colds[hoursTold] = cold;
            mists[hoursTold] = mist;
            hoursTold++;
            return true;
        }

        boolean tellSun(int hour) {
            sun = hour;
            return !isOutside(hour, 0, LATEST_SUN);
        }

        boolean tellMerchants(int hour) {
            merchants = hour;
            return !isOutside(hour, 1, LATEST_MERCHANTS);
        }

        boolean tellYard(int drops) {
            yard = drops;
            return !isOutside(drops, 1, MOST_DROPS);
        }

        int coldOf(int hour) {
            return ofHour(colds, hour, COLD_UNTOLD);
        }

        int mistOf(int hour) {
            return ofHour(mists, hour, 0);
        }

        private int ofHour(int[] row, int hour, int untold) {
            int told = Math.min(hour, hoursTold - 1);
            return told < 0 || told >= row.length ? untold : row[told];
        }

        void goBy(Slope slope, int hours) {
            for (int i = 0; i < hours; i++) {
                goByOne(slope, coldOf(slope.hour), mistOf(slope.hour));
            }
        }

        /** An hour with a cold and a mist that may not be those told of it. */
        void goByOne(Slope slope, int cold, int mist) {
            if (slope.hour < sun) {
                slope.gather(cold, mist);
            } else {
                slope.dry();
            }
            slope.hour++;
        }
    }

    /** A loom as it stands in some hour. */
    private static final class Loom {
        private int kind;
        private int place;
        private int threads;
        private int drops;
        private int spoiled;
        private int ranDown;
        private boolean shaded;

        void clear(int newKind, int newPlace, int newThreads) {
            kind = newKind;
            place = newPlace;
            threads = newThreads;
            drops = 0;
            spoiled = 0;
            ranDown = 0;
            shaded = false;
        }

        void copy(Loom other) {
            kind = other.kind;
            place = other.place;
            threads = other.threads;
            drops = other.drops;
            spoiled = other.spoiled;
            ranDown = other.ranDown;
            shaded = other.shaded;
        }

        int tell(int what) {
            switch (what) {
                case 0: return kind;
                case 1: return place;
                case 2: return threads;
                case 3: return drops;
                case 4: return spoiled;
                default: return shaded ? 1 : 0;
            }
        }

        int holds() {
            return DROPS_A_THREAD * threads;
        }

        void turnShade() {
            shaded = !shaded;
        }

        void feelCow() {
            drops /= 2;
        }

        void takeTears() {
            drops = Math.min(drops + threads, holds());
        }

        /** By an hour without sun; what ran down to it from above is given. */
        void gather(int fromAbove, int cold, int mist) {
            int all = drops + settling(cold, mist);
            if (kind == BRIDES) {
                spoiled += fromAbove;
            } else {
                all += fromAbove;
            }
            drops = Math.min(all, holds());
            ranDown = all - drops;
        }

        private int settling(int cold, int mist) {
            if (kind == SHEET) {
                return mist == 1 ? cold + 2 : cold;
            }
            int onOthers = mist == 1 ? cold / 2 : cold;
            return kind == SPIDERS ? 2 * onOthers : onOthers;
        }

        void dry() {
            ranDown = 0;
            if (!shaded) {
                drops = Math.max(0, drops - (kind == SHEET ? 1 : 2));
            }
        }
    }

    /** All looms as they stand in some hour, and what has run off by then. */
    private static final class Slope {
        private final Loom[] looms = new Loom[MOST_LOOMS];
        private final int[] fromAbove = new int[MOST_LOOMS];
        private int many;
        private int hour;
        private int ranOff;

        Slope() {
            for (int l = 0; l < looms.length; l++) {
                looms[l] = new Loom();
            }
        }

        void clear() {
            many = 0;
            hour = 0;
            ranOff = 0;
        }

        void copy(Slope other) {
            many = other.many;
            hour = other.hour;
            ranOff = other.ranOff;
            for (int l = 0; l < many; l++) {
                pick(l).copy(other.pick(l));
            }
            System.arraycopy(other.fromAbove, 0, fromAbove, 0, MOST_LOOMS);
        }

        boolean addLoom(int kind, int place, int threads) {
            if (many >= MOST_LOOMS || isOutside(kind, 0, MOST_KINDS - 1) || isNoPlace(place)
                    || loomOn(place) != NONE || isOutside(threads, 1, MOST_THREADS)) {
                return false;
            }
            many++;
            pick(many - 1).clear(kind, place, threads);
            rank();
            return true;
        }

        /** A loom that there is; the bounds are looked at all the same, so that none can throw. */
        Loom pick(int l) {
            return looms[l < 0 || l >= looms.length ? 0 : l];
        }

        int loomOn(int place) {
            for (int l = 0; l < many; l++) {
                if (pick(l).place == place) {
                    return l;
                }
            }
            return NONE;
        }

        /** To be called whenever a place has become another: hours go by in this order. */
        void rank() {
            for (int l = 0; l < many; l++) {
                int rank = 0;
                for (int other = 0; other < many; other++) {
                    rank += pick(other).place < pick(l).place ? 1 : 0;
                }
                if (rank < fromAbove.length) {
                    fromAbove[rank] = l;
                }
            }
        }

        int nextAbove(int l) {
            int above = NONE;
            for (int i = 0; i < many && i < fromAbove.length; i++) {
                if (fromAbove[i] == l) {
                    return above;
                }
                above = fromAbove[i];
            }
            return NONE;
        }

        void gather(int cold, int mist) {
            int running = 0;
            for (int i = 0; i < many && i < fromAbove.length; i++) {
                Loom loom = pick(fromAbove[i]);
                loom.gather(running, cold, mist);
                running = loom.ranDown;
            }
            ranOff += running;
        }

        void dry() {
            for (int l = 0; l < many; l++) {
                pick(l).dry();
            }
        }

        int allDrops() {
            int all = 0;
            for (int l = 0; l < many; l++) {
                all += pick(l).drops;
            }
            return all;
        }

        int allSpoiled() {
            int all = 0;
            for (int l = 0; l < many; l++) {
                all += pick(l).spoiled;
            }
            return all;
        }

        int shades() {
            int bits = 0;
            for (int l = 0; l < many; l++) {
                bits |= pick(l).shaded ? 1 << l : 0;
            }
            return bits;
        }

        int yardBits(int yard) {
            int bits = 0;
            for (int l = 0; l < many; l++) {
                bits |= pick(l).drops >= yard ? 1 << l : 0;
            }
            return bits;
        }
    }

    /** Slopes as they stood, the latest on top. */
    private static final class Pile {
        private final Slope[] slopes;
        private int many;

        Pile(int most) {
            slopes = new Slope[Math.max(1, most)];
            for (int i = 0; i < slopes.length; i++) {
                slopes[i] = new Slope();
            }
        }

        void clear() {
            many = 0;
        }

        boolean isFull() {
            return many >= slopes.length;
        }

        /** Into a full pile, too: then the oldest one is lost. */
        void put(Slope slope) {
            if (isFull()) {
                loseOldest();
            }
            if (many >= 0 && many < slopes.length) {
                slopes[many].copy(slope);
                many++;
            }
        }

        private void loseOldest() {
            Slope oldest = slopes[0];
            for (int i = 1; i < slopes.length; i++) {
                slopes[i - 1] = slopes[i];
            }
            slopes[slopes.length - 1] = oldest;
            many = slopes.length - 1;
        }

        void takeInto(Slope slope) {
            if (many > 0 && many <= slopes.length) {
                many--;
                slope.copy(slopes[many]);
            }
        }
    }

    /** What is seen: that a loom has so many drops behind so many hours. */
    private static final class Sights {
        private final int[] looms = new int[MOST_SEEN];
        private final int[] drops = new int[MOST_SEEN];
        private final int[] hours = new int[MOST_SEEN];
        private int many;

        void clear() {
            many = 0;
        }

        boolean isFull() {
            return many >= MOST_SEEN;
        }

        void put(int loom, int drop, int hour) {
            if (many >= 0 && many < MOST_SEEN) {
                looms[many] = loom;
                drops[many] = drop;
                hours[many] = hour;
                many++;
            }
        }

        /** Of what is seen for an hour: whether a slope is so. */
        boolean isSo(Slope slope, int hour) {
            for (int i = 0; i < many && i < MOST_SEEN; i++) {
                if (hours[i] == hour && slope.pick(looms[i]).drops != drops[i]) {
                    return false;
                }
            }
            return true;
        }
    }

    /** All ways to set the looms on the places that they have, the first one first. */
    private static final class Ways {
        private final int[] places = new int[MOST_LOOMS];
        private final int[] bestPlaces = new int[MOST_LOOMS];
        private int many;
        private int bestYards;

        void begin(Slope slope) {
            many = 0;
            bestYards = NONE;
            for (int place = 0; place < MOST_PLACES; place++) {
                if (slope.loomOn(place) != NONE && many < places.length) {
                    places[many] = place;
                    many++;
                }
            }
        }

        void applyTo(Slope slope) {
            for (int l = 0; l < many && l < places.length; l++) {
                slope.pick(l).place = places[l];
            }
            slope.rank();
        }

        /** Only more yards are better: of several ways the first one stays. */
        void weigh(int yards) {
            if (yards > bestYards) {
                bestYards = yards;
                System.arraycopy(places, 0, bestPlaces, 0, MOST_LOOMS);
            }
        }

        boolean isFound() {
            return bestYards != NONE;
        }

        int bestPlace(int l) {
            return l < 0 || l >= bestPlaces.length ? NONE : bestPlaces[l];
        }

        /** The next way, by the place of loom 0, then 1, ..; false behind the last one. */
        boolean goOn() {
            for (int l = Math.min(many, places.length) - 2; l >= 0; l--) {
                if (places[l] < places[l + 1]) {
                    swap(l, leastAbove(l));
                    turnBehind(l);
                    return true;
                }
            }
            return false;
        }

        /** Behind l the places fall, so the last one that is above is the least such. */
        private int leastAbove(int l) {
            int found = l;
            for (int i = l + 1; i < many && i < places.length; i++) {
                if (l >= 0 && places[i] > places[l]) {
                    found = i;
                }
            }
            return found;
        }

        private void turnBehind(int l) {
            int last = many - 1;
            for (int first = l + 1; first < last; first++) {
                swap(first, last);
                last--;
            }
        }

        private void swap(int a, int b) {
            if (!isOutside(a, 0, MOST_LOOMS - 1) && !isOutside(b, 0, MOST_LOOMS - 1)) {
                int held = places[a];
                places[a] = places[b];
                places[b] = held;
            }
        }
    }
}
