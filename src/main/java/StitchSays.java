import java.util.Arrays;

/** Cloths that say something. What each call must do stands in the document, as promises 1 to 41. */
public final class StitchSays {
    public static final int NONE = -1;

    private static final int NO_SUCH_NUMBER = -2;
    private static final int NO_ROOM = -3;
    private static final int FAULTY = -4;
    private static final int NOT_TO_BE_DONE = -5;
    private static final int NOT_THERE = -6;
    private static final int BEYOND_THE_ROW = -7;
    private static final int OTHER_WIDTH = -8;

    private static final int MOST_BYTES = 600;
    private static final int BYTES_A_FEED = 20;
    private static final int MOST_SIDE = 16;
    private static final int MOST_PLACES = MOST_SIDE * MOST_SIDE;
    private static final int MOST_TOLD_ROWS = 8;
    private static final int MOST_SIGNS = 12;
    private static final int MOST_LINES = 12;
    private static final int CLOTHS = 4;
    private static final int WAYS = 6;
    private static final int IMAGES = 3;
    private static final int SLOTS = 4;
    private static final int WIDTHS = 4;
    private static final int MOST_NUMBERS = 60;
    private static final int MOST_SEED = 2_000_000_000;
    private static final int MOST_KNITTED = 50;

    // What stands in a place of a CLOTH.
    private static final int PLAIN = 0;
    private static final int PURL = 1;
    private static final int HOLE = 2;
    private static final int SLIP = 3;
    private static final int LOST = 4;

    // The sorts of a PATTERN, as their signs stand in SIGNS; those from FREE_F on are FREE.
    private static final String SIGNS = "kpfhm";
    private static final int FREE_F = 2;
    private static final int FREE_SORTS = 3;

    // What a GROUP or BIT tells beside 0 and 1.
    private static final int UNTOLD = 2;

    // Fives of BITS.
    private static final int BITS_A_LETTER = 5;
    private static final int LAST_LETTER = 26;
    private static final int END_OF_WORDS = 31;
    private static final int UNTOLD_LETTER = 32;
    private static final int MOST_LETTERS = MOST_PLACES / BITS_A_LETTER;
    private static final int BLANK = 32;
    private static final int QUESTION_MARK = 63;

    // What the WATCHER counts.
    private static final int RUNS = 3;
    private static final int MOST = 4;
    private static final int LEAST = 5;
    private static final int LOST_PLACES = 6;
    private static final int FREE_PLACES = 7;
    private static final int COUNTERS = 8;

    private final Tape tape = new Tape();
    private final Basket now = new Basket();
    private final Basket[] images = new Basket[IMAGES];
    private final Letters latest = new Letters();
    private final Slot[] slots = new Slot[SLOTS];

    // Rows to work in, made once since nothing that a run makes is given back.
    private final Pattern newPattern = new Pattern();
    private final int[] newShares = new int[FREE_SORTS];
    private final Way newWay = new Way();
    private final Watcher newWatcher = new Watcher();
    private final Losses newLosses = new Losses();
    private final Letters heard = new Letters();
    private final Walk walk = new Walk();
    private final Cloth trial = new Cloth();
    private final Tally tally = new Tally();

    public StitchSays() {
        for (int i = 0; i < SLOTS; i++) {
            slots[i] = new Slot();
        }
    }

    // ---- the TAPE and its texts: promises 2 to 9

    public int feed(int a, int b, int c, int d, int e) {
        if (!tape.hasRoomFor(BYTES_A_FEED)) {
            return NONE;
        }
        tape.addBytesOf(a);
        tape.addBytesOf(b);
        tape.addBytesOf(c);
        tape.addBytesOf(d);
        tape.addBytesOf(e);
        return tape.size;
    }

    public int end(int n) {
        if (n < 0 || n > tape.size) {
            return NONE;
        }
        tape.size = n;
        return n;
    }

    public int pattern() {
        boolean fine = newPattern.tell(tape);
        tape.empty();
        if (!fine) {
            return FAULTY;
        }
        now.pattern.takeFrom(newPattern);
        now.dropCloths();
        return now.pattern.free;
    }

    public int hand() {
        boolean fine = tellHand();
        tape.empty();
        if (!fine) {
            return FAULTY;
        }
        System.arraycopy(newShares, 0, now.shares, 0, FREE_SORTS);
        return 0;
    }

    public int way(int k) {
        if (!isWay(k)) {
            return NO_SUCH_NUMBER;
        }
        boolean fine = newWay.tell(tape);
        tape.empty();
        if (!fine) {
            return FAULTY;
        }
        now.ways[k].takeFrom(newWay);
        return bitsOf(now.ways[k]);
    }

    public int watcher() {
        boolean fine = newWatcher.tell(tape);
        tape.empty();
        if (!fine) {
            return FAULTY;
        }
        now.watcher.takeFrom(newWatcher);
        return now.watcher.lines;
    }

    public int losses() {
        boolean fine = newLosses.tell(tape);
        tape.empty();
        if (!fine) {
            return FAULTY;
        }
        now.losses.takeFrom(newLosses);
        return now.losses.lines;
    }

    public int fault(int what) {
        switch (what) {
            case 0:
                return tape.fault;
            case 1:
                return tape.faultPlace;
            default:
                return NONE;
        }
    }

    // ---- CLOTHS and what they say: promises 10 to 17

    public int knit(int c, int seed) {
        if (!isCloth(c) || !isSeed(seed)) {
            return NO_SUCH_NUMBER;
        }
        if (!now.pattern.isThere()) {
            return NOT_THERE;
        }
        return now.cloths[c].knitBy(now.pattern, now.shares, seed);
    }

    public int put(int c, int k) {
        int no = refusalOfReading(c, k);
        if (no != 0) {
            return no;
        }
        int answer = putTape(now.cloths[c], now.ways[k]);
        tape.empty();
        return answer;
    }

    public int read(int c, int k) {
        int no = refusalOfReading(c, k);
        if (no != 0) {
            return no;
        }
        if (!saysByWay(now.cloths[c], now.ways[k])) {
            return NONE;
        }
        latest.takeFrom(heard);
        return latest.size;
    }

    public int letter(int i) {
        return latest.byteOf(i);
    }

    public int bit(int c, int k, int i) {
        int no = refusalOfReading(c, k);
        if (no != 0) {
            return no;
        }
        walk.follow(now.ways[k], now.pattern);
        if (i < 0 || i >= walk.bits) {
            return NONE;
        }
        return walk.bitTells(now.cloths[c], i);
    }

    public int dim(int c, int k) {
        int no = refusalOfReading(c, k);
        if (no != 0) {
            return no;
        }
        walk.follow(now.ways[k], now.pattern);
        int untold = 0;
        for (int i = 0; i < walk.bits; i++) {
            if (walk.bitTells(now.cloths[c], i) == UNTOLD) {
                untold++;
            }
        }
        return untold;
    }

    public int says(int c) {
        int no = refusalOfCloth(c);
        if (no != 0) {
            return no;
        }
        int ways = 0;
        for (int k = 0; k < WAYS; k++) {
            if (now.ways[k].there && saysByWay(now.cloths[c], now.ways[k])) {
                ways |= 1 << k;
            }
        }
        return ways;
    }

    public int at(int c, int row, int column) {
        int place = now.pattern.placeOf(row, column);
        if (!hasCloth(c) || place == NONE) {
            return NONE;
        }
        return now.cloths[c].stitchAt(place);
    }

    // ---- the PATTERN and the WAYS: promises 18 to 21

    public int sort(int row, int column) {
        return now.pattern.sortAt(now.pattern.placeOf(row, column));
    }

    public int place(int k, int i) {
        int no = refusalOfWay(k);
        if (no != 0) {
            return no;
        }
        walk.follow(now.ways[k], now.pattern);
        int place = walk.placeAt(i);
        if (place == NONE) {
            return NONE;
        }
        return 100 * now.pattern.rowOf(place) + now.pattern.columnOf(place);
    }

    public int room(int k) {
        int no = refusalOfWay(k);
        return no != 0 ? no : bitsOf(now.ways[k]);
    }

    public int most(int k) {
        int no = refusalOfWay(k);
        return no != 0 ? no : Math.max(0, bitsOf(now.ways[k]) / BITS_A_LETTER - 1);
    }

    // ---- the WATCHER and the LOSSES: promises 22 to 27

    public int counts(int c, int what) {
        if (!isCloth(c) || what < 0 || what >= COUNTERS) {
            return NO_SUCH_NUMBER;
        }
        if (!hasCloth(c)) {
            return NOT_THERE;
        }
        tally.countOver(now.pattern, now.cloths[c]);
        return tally.valueOf(what);
    }

    public int stops(int c) {
        int no = refusalOfCloth(c);
        return no != 0 ? no : lineThatStops(now.cloths[c]);
    }

    public int odds(int seed, int n) {
        if (!isSeed(seed) || !isManyKnitted(n)) {
            return NO_SUCH_NUMBER;
        }
        if (!now.pattern.isThere()) {
            return NOT_THERE;
        }
        int stopped = 0;
        for (int i = 0; i < n; i++) {
            trial.knitBy(now.pattern, now.shares, seed + i);
            if (lineThatStops(trial) != NONE) {
                stopped++;
            }
        }
        return stopped;
    }

    public int carries(int k, int seed, int n) {
        if (!isWay(k) || !isSeed(seed) || !isManyKnitted(n)) {
            return NO_SUCH_NUMBER;
        }
        if (!now.pattern.isThere() || !now.ways[k].there) {
            return NOT_THERE;
        }
        if (!latest.isSure()) {
            return NOT_TO_BE_DONE;
        }
        walk.follow(now.ways[k], now.pattern);
        if (!walk.hasRoomFor(latest.size)) {
            return NO_ROOM;
        }
        int stopped = 0;
        for (int i = 0; i < n; i++) {
            trial.knitBy(now.pattern, now.shares, seed + i);
            latest.weaveInto(trial, now.pattern, walk);
            if (lineThatStops(trial) != NONE) {
                stopped++;
            }
        }
        return stopped;
    }

    public int best(int c) {
        int no = refusalOfCloth(c);
        if (no != 0) {
            return no;
        }
        if (!latest.isSure()) {
            return NOT_TO_BE_DONE;
        }
        int bestWay = NONE;
        int fewest = MOST_PLACES + 1;
        for (int k = 0; k < WAYS; k++) {
            int changed = changesByWay(now.cloths[c], now.ways[k]);
            if (changed != NONE && changed < fewest) {
                bestWay = k;
                fewest = changed;
            }
        }
        return bestWay;
    }

    public int lose(int c) {
        int no = refusalOfCloth(c);
        if (no != 0) {
            return no;
        }
        now.losses.wear(now.cloths[c], now.pattern);
        return now.cloths[c].lostPlaces(now.pattern);
    }

    // ---- two CLOTHS, balls, changes by hand: promises 28 to 34

    public int alike(int c, int d) {
        int no = refusalOfCloths(c, d);
        if (no != 0) {
            return no;
        }
        int alike = 0;
        for (int i = 0; i < now.pattern.free; i++) {
            int place = now.pattern.freePlace(i);
            int stitch = now.cloths[c].stitchAt(place);
            if (stitch != LOST && stitch == now.cloths[d].stitchAt(place)) {
                alike++;
            }
        }
        return alike;
    }

    public int same(int c, int d, int k) {
        if (!isCloth(c) || !isCloth(d) || !isWay(k)) {
            return NO_SUCH_NUMBER;
        }
        if (!hasCloth(c) || !hasCloth(d) || !now.ways[k].there) {
            return NOT_THERE;
        }
        walk.follow(now.ways[k], now.pattern);
        int alike = 0;
        for (int i = 0; i < walk.bits; i++) {
            int told = walk.bitTells(now.cloths[c], i);
            if (told != UNTOLD && told == walk.bitTells(now.cloths[d], i)) {
                alike++;
            }
        }
        return alike;
    }

    public int ball(int c, int i) {
        int no = refusalOfCloth(c);
        if (no != 0) {
            return no;
        }
        // The ball is unravelled against the order of knitting.
        int met = 0;
        for (int n = now.pattern.places() - 1; n >= 0; n--) {
            int stitch = now.cloths[c].stitchAt(now.pattern.knittedAs(n));
            if (stitch != LOST) {
                if (met == i) {
                    return stitch;
                }
                met++;
            }
        }
        return NONE;
    }

    public int rewind(int c, int d) {
        int no = refusalOfCloths(c, d);
        if (no != 0) {
            return no;
        }
        trial.knitBackFrom(now.cloths[c], now.pattern);
        int otherwise = trial.placesUnlike(now.cloths[c], now.pattern);
        now.cloths[d].takeFrom(trial);
        return otherwise;
    }

    public int copy(int c, int d) {
        if (!isCloth(c) || !isCloth(d)) {
            return NO_SUCH_NUMBER;
        }
        if (!hasCloth(c)) {
            return NOT_THERE;
        }
        now.cloths[d].takeFrom(now.cloths[c]);
        return 0;
    }

    public int turn(int c, int row, int column) {
        int place = now.pattern.placeOf(row, column);
        if (!isCloth(c) || now.pattern.sortAt(place) < FREE_F) {
            return NO_SUCH_NUMBER;
        }
        if (!hasCloth(c)) {
            return NOT_THERE;
        }
        if (now.cloths[c].stitchAt(place) == LOST) {
            return NOT_TO_BE_DONE;
        }
        int turned = now.pattern.turnedOver(place, now.cloths[c].stitchAt(place));
        now.cloths[c].setStitch(place, turned);
        return turned;
    }

    public int mend(int c) {
        int no = refusalOfCloth(c);
        if (no != 0) {
            return no;
        }
        Cloth cloth = now.cloths[c];
        if (lineThatStops(cloth) == NONE) {
            return 0;
        }
        if (oneTurnPasses(cloth, 0)) {
            return 1;
        }
        for (int i = 0; i < now.pattern.free; i++) {
            int place = now.pattern.freePlace(i);
            int stitch = cloth.stitchAt(place);
            if (stitch != LOST) {
                tally.change(place, now.pattern.turnedOver(place, stitch));
                if (oneTurnPasses(cloth, i + 1)) {
                    return 2;
                }
                tally.change(place, stitch);
            }
        }
        return NONE;
    }

    // ---- counts, IMAGES, SLOTS: promises 35 to 41

    public int count(int what) {
        switch (what) {
            case 0:
                return now.pattern.high;
            case 1:
                return now.pattern.wide;
            case 2:
                return now.pattern.free;
            case 3:
                return now.waysThere();
            case 4:
                return now.watcher.lines;
            case 5:
                return now.losses.lines;
            case 6:
                return now.clothsThere();
            case 7:
                return tape.size;
            case 8:
                return latest.size;
            case 9:
                return slotsThere();
            default:
                return NONE;
        }
    }

    public int keep(int k) {
        if (k < 0 || k >= IMAGES) {
            return NO_SUCH_NUMBER;
        }
        if (images[k] == null) {
            images[k] = new Basket();
        }
        images[k].takeFrom(now);
        return 0;
    }

    public int back(int k) {
        if (k < 0 || k >= IMAGES) {
            return NO_SUCH_NUMBER;
        }
        if (images[k] == null) {
            return NOT_THERE;
        }
        now.takeFrom(images[k]);
        return 0;
    }

    public int row(int slot, int width, int n) {
        if (!isSlot(slot) || width < 0 || width >= WIDTHS || n > MOST_NUMBERS) {
            return NO_SUCH_NUMBER;
        }
        if (n < 0) {
            return NO_ROOM;
        }
        slots[slot].begin(width, n);
        return 0;
    }

    public int write(int slot, int i, long v) {
        if (!isSlot(slot)) {
            return NO_SUCH_NUMBER;
        }
        if (!slots[slot].isThere()) {
            return NOT_THERE;
        }
        if (!slots[slot].has(i, 1)) {
            return BEYOND_THE_ROW;
        }
        slots[slot].set(i, v);
        return 0;
    }

    public int paste(int slot, int i, int to, int k, int n) {
        if (!isSlot(slot) || !isSlot(to)) {
            return NO_SUCH_NUMBER;
        }
        if (!slots[slot].isThere() || !slots[to].isThere()) {
            return NOT_THERE;
        }
        if (slots[slot].width != slots[to].width) {
            return OTHER_WIDTH;
        }
        if (!slots[slot].has(i, n) || !slots[to].has(k, n)) {
            return BEYOND_THE_ROW;
        }
        System.arraycopy(slots[slot].numbers, i, slots[to].numbers, k, n);
        return 0;
    }

    public int lay(int slot, int c) {
        if (!isSlot(slot) || !isCloth(c)) {
            return NO_SUCH_NUMBER;
        }
        if (!slots[slot].isThere() || !hasCloth(c)) {
            return NOT_THERE;
        }
        int changed = 0;
        int n = Math.min(slots[slot].size, now.pattern.free);
        for (int i = 0; i < n; i++) {
            int place = now.pattern.freePlace(i);
            int stitch = slots[slot].isZero(i) ? PLAIN : now.pattern.notPlainAt(place);
            if (now.cloths[c].stitchAt(place) != stitch) {
                now.cloths[c].setStitch(place, stitch);
                changed++;
            }
        }
        return changed;
    }

    // ---- what the calls share

    private static boolean isCloth(int c) {
        return c >= 0 && c < CLOTHS;
    }

    private static boolean isWay(int k) {
        return k >= 0 && k < WAYS;
    }

    private static boolean isSlot(int slot) {
        return slot >= 0 && slot < SLOTS;
    }

    private static boolean isSeed(int seed) {
        return seed >= 0 && seed <= MOST_SEED;
    }

    private static boolean isManyKnitted(int n) {
        return n >= 1 && n <= MOST_KNITTED;
    }

    private boolean hasCloth(int c) {
        return isCloth(c) && now.cloths[c].there;
    }

    private int refusalOfCloth(int c) {
        if (!isCloth(c)) {
            return NO_SUCH_NUMBER;
        }
        return hasCloth(c) ? 0 : NOT_THERE;
    }

    private int refusalOfCloths(int c, int d) {
        if (!isCloth(c) || !isCloth(d)) {
            return NO_SUCH_NUMBER;
        }
        return hasCloth(c) && hasCloth(d) ? 0 : NOT_THERE;
    }

    private int refusalOfWay(int k) {
        if (!isWay(k)) {
            return NO_SUCH_NUMBER;
        }
        return now.ways[k].there ? 0 : NOT_THERE;
    }

    private int refusalOfReading(int c, int k) {
        if (!isCloth(c) || !isWay(k)) {
            return NO_SUCH_NUMBER;
        }
        return hasCloth(c) && now.ways[k].there ? 0 : NOT_THERE;
    }

    private boolean tellHand() {
        tape.start();
        tape.takeWord("hand");
        for (int i = 0; i < FREE_SORTS; i++) {
            tape.takeWord(i == 0 ? "f" : i == 1 ? "h" : "m");
            newShares[i] = tape.takeNumber(0, 100);
        }
        tape.takeSemicolon();
        tape.takeEnd();
        return tape.isFine();
    }

    private int bitsOf(Way way) {
        walk.follow(way, now.pattern);
        return walk.bits;
    }

    private int putTape(Cloth cloth, Way way) {
        if (!tape.isWords()) {
            return FAULTY;
        }
        walk.follow(way, now.pattern);
        if (!walk.hasRoomFor(tape.size)) {
            return NO_ROOM;
        }
        heard.takeTape(tape);
        return heard.weaveInto(cloth, now.pattern, walk);
    }

    private boolean saysByWay(Cloth cloth, Way way) {
        walk.follow(way, now.pattern);
        return heard.hear(cloth, walk);
    }

    private int lineThatStops(Cloth cloth) {
        tally.countOver(now.pattern, cloth);
        return now.watcher.lineThatStops(tally);
    }

    /** How many places a WAY changes that does all that best() asks for; NONE if it does not. */
    private int changesByWay(Cloth cloth, Way way) {
        walk.follow(way, now.pattern);
        if (!way.there || !walk.hasRoomFor(latest.size)) {
            return NONE;
        }
        trial.takeFrom(cloth);
        int changed = latest.weaveInto(trial, now.pattern, walk);
        tally.countOver(now.pattern, trial);
        if (now.watcher.lineThatStops(tally) != NONE) {
            return NONE;
        }
        now.losses.wear(trial, now.pattern);
        return heard.hear(trial, walk) && heard.isAs(latest) ? changed : NONE;
    }

    /** Whether what was counted of a CLOTH passes with one FREE place, the from-th or a later one, turned over. */
    private boolean oneTurnPasses(Cloth cloth, int from) {
        for (int i = from; i < now.pattern.free; i++) {
            int place = now.pattern.freePlace(i);
            int stitch = cloth.stitchAt(place);
            if (stitch != LOST) {
                tally.change(place, now.pattern.turnedOver(place, stitch));
                if (now.watcher.lineThatStops(tally) == NONE) {
                    return true;
                }
                // Put back by what stood there: a second turn could leave another stitch.
                tally.change(place, stitch);
            }
        }
        return false;
    }

    private int slotsThere() {
        int there = 0;
        for (int i = 0; i < SLOTS; i++) {
            if (slots[i].isThere()) {
                there++;
            }
        }
        return there;
    }

    /** The bytes that were fed, and the one TOKEN of them that is looked at. */
    private static final class Tape {
        private static final int CANNOT_STAND = 1;
        private static final int OUT_OF_BOUNDS = 2;
        private static final int TOO_MANY = 3;

        private static final int AT_END = 0;
        private static final int WORD = 1;
        private static final int NUMBER = 2;
        private static final int SEMICOLON = 3;
        private static final int NO_TOKEN = 4;

        // Above every bound of the document, so that long numbers stay out of bounds.
        private static final int BIG_NUMBER = 10_000;

        private final int[] bytes = new int[MOST_BYTES];
        private int size;
        private int kind;
        private int from;
        private int to;
        private int fault;
        private int faultPlace = NONE;

        boolean hasRoomFor(int more) {
            return size + more <= MOST_BYTES;
        }

        void addBytesOf(int v) {
            for (int shift = 24; shift >= 0; shift -= 8) {
                if (size < bytes.length) {
                    bytes[size] = (v >>> shift) & 255;
                    size++;
                }
            }
        }

        void empty() {
            size = 0;
        }

        int byteAt(int i) {
            return i >= 0 && i < size && i < bytes.length ? bytes[i] : NONE;
        }

        void start() {
            fault = 0;
            faultPlace = NONE;
            to = 0;
            advance();
        }

        boolean isFine() {
            return fault == 0;
        }

        boolean goesOn() {
            return isFine() && kind != AT_END;
        }

        /** Only the first fault is kept, and no TOKEN stands behind it. */
        void complain(int what) {
            if (isFine()) {
                fault = what;
                faultPlace = from;
                kind = NO_TOKEN;
            }
        }

        void advance() {
            if (!isFine()) {
                return;
            }
            from = to;
            while (from < size && isBlank(byteAt(from))) {
                from++;
            }
            kind = kindOf(byteAt(from));
            to = Math.min(from + 1, size);
            boolean isLong = kind == WORD || kind == NUMBER;
            while (isLong && to < size && kindOf(byteAt(to)) == kind) {
                to++;
            }
        }

        private static int kindOf(int b) {
            if (b >= 'a' && b <= 'z') {
                return WORD;
            }
            if (b >= '0' && b <= '9') {
                return NUMBER;
            }
            if (b == ';') {
                return SEMICOLON;
            }
            return b == NONE ? AT_END : NO_TOKEN;
        }

        private static boolean isBlank(int b) {
            return b == BLANK || b == '\n';
        }

        boolean isNumber() {
            return kind == NUMBER;
        }

        boolean isEvenNumber() {
            return isNumber() && numberTold() % 2 == 0;
        }

        private int numberTold() {
            int number = 0;
            for (int i = from; i < to; i++) {
                number = Math.min(BIG_NUMBER, 10 * number + byteAt(i) - '0');
            }
            return number;
        }

        boolean isSemicolon() {
            return kind == SEMICOLON;
        }

        boolean isWord(String word) {
            if (kind != WORD || to - from != word.length()) {
                return false;
            }
            for (int i = 0; i < word.length(); i++) {
                if (word.charAt(i) != byteAt(from + i)) {
                    return false;
                }
            }
            return true;
        }

        boolean isWordOf(String signs) {
            for (int i = from; i < to; i++) {
                if (signs.indexOf((char) byteAt(i)) < 0) {
                    return false;
                }
            }
            return kind == WORD;
        }

        int wordLength() {
            return kind == WORD ? to - from : 0;
        }

        /** Which one of the signs is the i-th of the word. */
        int signOfWord(int i, String signs) {
            return signs.indexOf((char) byteAt(from + i));
        }

        void takeWord(String word) {
            if (isWord(word)) {
                advance();
            } else {
                complain(CANNOT_STAND);
            }
        }

        boolean mayTakeWord(String word) {
            if (!isWord(word)) {
                return false;
            }
            advance();
            return true;
        }

        int takeNumber(int least, int most) {
            if (!isNumber()) {
                complain(CANNOT_STAND);
                return least;
            }
            int number = numberTold();
            if (number < least || number > most) {
                complain(OUT_OF_BOUNDS);
                return least;
            }
            advance();
            return number;
        }

        void takeSemicolon() {
            if (isSemicolon()) {
                advance();
            } else {
                complain(CANNOT_STAND);
            }
        }

        void takeEnd() {
            if (kind != AT_END) {
                complain(CANNOT_STAND);
            }
        }

        /** Whether the whole TAPE is WORDS, whose TOKENS are the bytes. */
        boolean isWords() {
            fault = 0;
            faultPlace = NONE;
            from = 0;
            while (from < size && (byteAt(from) == BLANK || kindOf(byteAt(from)) == WORD)) {
                from++;
            }
            if (from < size || size == 0) {
                complain(CANNOT_STAND);
            }
            return isFine();
        }
    }

    /** What an IMAGE keeps. */
    private static final class Basket {
        private final Pattern pattern = new Pattern();
        private final int[] shares = new int[FREE_SORTS];
        private final Way[] ways = new Way[WAYS];
        private final Watcher watcher = new Watcher();
        private final Losses losses = new Losses();
        private final Cloth[] cloths = new Cloth[CLOTHS];

        Basket() {
            for (int k = 0; k < WAYS; k++) {
                ways[k] = new Way();
            }
            for (int c = 0; c < CLOTHS; c++) {
                cloths[c] = new Cloth();
            }
        }

        void takeFrom(Basket other) {
            pattern.takeFrom(other.pattern);
            System.arraycopy(other.shares, 0, shares, 0, FREE_SORTS);
            for (int k = 0; k < WAYS; k++) {
                ways[k].takeFrom(other.ways[k]);
            }
            watcher.takeFrom(other.watcher);
            losses.takeFrom(other.losses);
            for (int c = 0; c < CLOTHS; c++) {
                cloths[c].takeFrom(other.cloths[c]);
            }
        }

        void dropCloths() {
            for (int c = 0; c < CLOTHS; c++) {
                cloths[c].there = false;
            }
        }

        int waysThere() {
            int there = 0;
            for (int k = 0; k < WAYS; k++) {
                if (ways[k].there) {
                    there++;
                }
            }
            return there;
        }

        int clothsThere() {
            int there = 0;
            for (int c = 0; c < CLOTHS; c++) {
                if (cloths[c].there) {
                    there++;
                }
            }
            return there;
        }
    }

    /** The sorts of all places, numbered row by row. */
    private static final class Pattern {
        private final int[] sorts = new int[MOST_PLACES];
        private final int[] freePlaces = new int[MOST_PLACES];
        private int wide;
        private int high;
        private int free;

        boolean isThere() {
            return high > 0;
        }

        int places() {
            return wide * high;
        }

        int placeOf(int row, int column) {
            if (row < 0 || row >= high || column < 0 || column >= wide) {
                return NONE;
            }
            return row * wide + column;
        }

        int rowOf(int place) {
            return wide > 0 ? place / wide : 0;
        }

        int columnOf(int place) {
            return wide > 0 ? place % wide : 0;
        }

        int sortAt(int place) {
            return place >= 0 && place < wide * high && place < MOST_PLACES ? sorts[place] : NONE;
        }

        int freePlace(int i) {
            return i >= 0 && i < free && i < MOST_PLACES ? freePlaces[i] : NONE;
        }

        int notPlainAt(int place) {
            switch (sortAt(place)) {
                case FREE_F:
                    return PURL;
                case FREE_F + 1:
                    return HOLE;
                case FREE_F + 2:
                    return SLIP;
                default:
                    return PLAIN;
            }
        }

        int turnedOver(int place, int stitch) {
            return stitch == PLAIN ? notPlainAt(place) : PLAIN;
        }

        /** The place that is knitted as the n-th: there and back, row by row. */
        int knittedAs(int n) {
            int row = rowOf(n);
            int column = columnOf(n);
            return placeOf(row, row % 2 == 0 ? column : wide - 1 - column);
        }

        void takeFrom(Pattern other) {
            System.arraycopy(other.sorts, 0, sorts, 0, MOST_PLACES);
            System.arraycopy(other.freePlaces, 0, freePlaces, 0, MOST_PLACES);
            wide = other.wide;
            high = other.high;
            free = other.free;
        }

        boolean tell(Tape tape) {
            tape.start();
            tape.takeWord("wide");
            wide = tape.takeNumber(1, MOST_SIDE);
            tape.takeWord("rows");
            high = tape.takeNumber(1, MOST_SIDE);
            tape.takeSemicolon();
            tellRow(tape, 0);
            int told = 1;
            while (told <= MOST_TOLD_ROWS && tape.goesOn()) {
                tellRow(tape, told);
                told++;
            }
            if (tape.isFine()) {
                repeatRows(told);
                listFreePlaces();
            }
            return tape.isFine();
        }

        private void tellRow(Tape tape, int row) {
            if (row == MOST_TOLD_ROWS && tape.isWord("row")) {
                tape.complain(Tape.TOO_MANY);
            }
            tape.takeWord("row");
            if (tape.isWordOf(SIGNS) && tape.wordLength() <= MOST_SIGNS) {
                fillRow(tape, row);
                tape.advance();
            } else {
                tape.complain(Tape.CANNOT_STAND);
            }
            tape.takeSemicolon();
        }

        private void fillRow(Tape tape, int row) {
            int signs = tape.wordLength();
            for (int column = 0; column < wide && signs > 0; column++) {
                setSort(placeOf(row, column), tape.signOfWord(column % signs, SIGNS));
            }
        }

        private void repeatRows(int told) {
            for (int row = told; row < high; row++) {
                for (int column = 0; column < wide; column++) {
                    setSort(placeOf(row, column), sortAt(placeOf(row - told, column)));
                }
            }
        }

        /** Told rows that the CLOTH is too low for have no place. */
        private void setSort(int place, int sort) {
            if (place >= 0 && place < MOST_PLACES) {
                sorts[place] = sort;
            }
        }

        private void listFreePlaces() {
            free = 0;
            for (int place = 0; place < places(); place++) {
                if (sortAt(place) >= FREE_F && free < MOST_PLACES) {
                    freePlaces[free] = place;
                    free++;
                }
            }
        }
    }

    /** A WAY as it is told; a Walk has its PLACES. */
    private static final class Way {
        private static final String SORTS = "fhm";

        private boolean there;
        private int sorts;
        private int step = 1;
        private int group = 1;
        private int guard = 1;
        private boolean turning;
        private boolean fromTop;

        void takeFrom(Way other) {
            there = other.there;
            sorts = other.sorts;
            step = other.step;
            group = other.group;
            guard = other.guard;
            turning = other.turning;
            fromTop = other.fromTop;
        }

        boolean wants(int sort) {
            return sort >= FREE_F && (sorts >> (sort - FREE_F) & 1) == 1;
        }

        boolean tell(Tape tape) {
            there = true;
            tape.start();
            tape.takeWord("way");
            tape.takeWord("over");
            tellSorts(tape);
            step = tape.mayTakeWord("step") ? tape.takeNumber(1, 9) : 1;
            group = tape.mayTakeWord("group") ? tape.takeNumber(1, 5) : 1;
            guard = tape.mayTakeWord("guard") ? takeGuard(tape) : 1;
            turning = tape.mayTakeWord("turn");
            fromTop = tape.mayTakeWord("top");
            tape.takeSemicolon();
            tape.takeEnd();
            return tape.isFine();
        }

        private void tellSorts(Tape tape) {
            sorts = 0;
            boolean once = tape.isWordOf(SORTS);
            for (int i = 0; i < tape.wordLength() && once; i++) {
                int sort = 1 << tape.signOfWord(i, SORTS);
                once = (sorts & sort) == 0;
                sorts |= sort;
            }
            if (once) {
                tape.advance();
            } else {
                tape.complain(Tape.CANNOT_STAND);
            }
        }

        private static int takeGuard(Tape tape) {
            if (tape.isEvenNumber()) {
                tape.complain(Tape.OUT_OF_BOUNDS);
            }
            return tape.takeNumber(1, 5);
        }
    }

    /** The PLACES of a WAY over a PATTERN, in its order, and what they tell of a CLOTH. */
    private static final class Walk {
        private final int[] places = new int[MOST_PLACES];
        private int size;
        private int group = 1;
        private int guard = 1;
        private int bits;

        void follow(Way way, Pattern pattern) {
            size = 0;
            int left = way.step;
            for (int i = 0; i < pattern.high; i++) {
                int row = way.fromTop ? pattern.high - 1 - i : i;
                boolean backwards = way.turning && row % 2 == 1;
                for (int j = 0; j < pattern.wide; j++) {
                    int place = pattern.placeOf(row, backwards ? pattern.wide - 1 - j : j);
                    if (way.wants(pattern.sortAt(place))) {
                        left--;
                        if (left == 0) {
                            addPlace(place);
                            left = way.step;
                        }
                    }
                }
            }
            group = Math.max(1, way.group);
            guard = Math.max(1, way.guard);
            bits = size / (group * guard);
        }

        private void addPlace(int place) {
            if (size < MOST_PLACES) {
                places[size] = place;
                size++;
            }
        }

        int placeAt(int i) {
            return i >= 0 && i < size && i < MOST_PLACES ? places[i] : NONE;
        }

        boolean hasRoomFor(int letters) {
            return BITS_A_LETTER * (letters + 1) <= bits;
        }

        int groupTells(Cloth cloth, int g) {
            int notPlain = 0;
            for (int i = 0; i < group; i++) {
                int stitch = cloth.stitchAt(placeAt(g * group + i));
                if (stitch == LOST) {
                    return UNTOLD;
                }
                if (stitch != PLAIN) {
                    notPlain++;
                }
            }
            return notPlain % 2;
        }

        int bitTells(Cloth cloth, int b) {
            int moreOnes = 0;
            for (int i = 0; i < guard; i++) {
                int told = groupTells(cloth, b * guard + i);
                if (told != UNTOLD) {
                    moreOnes += told == 1 ? 1 : -1;
                }
            }
            if (moreOnes == 0) {
                return UNTOLD;
            }
            return moreOnes > 0 ? 1 : 0;
        }

        /** The number that five BITS are; UNTOLD_LETTER if one of them can't be told. */
        int fiveTells(Cloth cloth, int five) {
            int value = 0;
            for (int i = 0; i < BITS_A_LETTER; i++) {
                int told = bitTells(cloth, five * BITS_A_LETTER + i);
                if (told == UNTOLD) {
                    return UNTOLD_LETTER;
                }
                value = 2 * value + told;
            }
            return value;
        }

        /** Puts one BIT: how many places were changed. */
        int setBit(Cloth cloth, Pattern pattern, int b, int value) {
            int changed = 0;
            for (int i = 0; i < guard; i++) {
                int g = b * guard + i;
                if (groupTells(cloth, g) != value) {
                    int place = lastPlaceLeft(cloth, g);
                    if (place != NONE) {
                        cloth.setStitch(place, pattern.turnedOver(place, cloth.stitchAt(place)));
                        changed++;
                    }
                }
            }
            return changed;
        }

        private int lastPlaceLeft(Cloth cloth, int g) {
            for (int i = group - 1; i >= 0; i--) {
                int place = placeAt(g * group + i);
                if (cloth.stitchAt(place) != LOST) {
                    return place;
                }
            }
            return NONE;
        }
    }

    /** WORDS as the numbers of their fives. */
    private static final class Letters {
        private final int[] fives = new int[MOST_LETTERS];
        private int size;

        void takeFrom(Letters other) {
            System.arraycopy(other.fives, 0, fives, 0, MOST_LETTERS);
            size = other.size;
        }

        void takeTape(Tape tape) {
            size = 0;
            for (int i = 0; i < tape.size; i++) {
                int b = tape.byteAt(i);
                add(b == BLANK ? 0 : b - 'a' + 1);
            }
        }

        private void add(int five) {
            if (size < MOST_LETTERS) {
                fives[size] = five;
                size++;
            }
        }

        int fiveAt(int i) {
            return i >= 0 && i < size && i < MOST_LETTERS ? fives[i] : NONE;
        }

        int byteOf(int i) {
            int five = fiveAt(i);
            if (five == NONE) {
                return NONE;
            }
            if (five == UNTOLD_LETTER) {
                return QUESTION_MARK;
            }
            return five == 0 ? BLANK : 'a' + five - 1;
        }

        /** Whether there are some, all of which can be told. */
        boolean isSure() {
            for (int i = 0; i < size; i++) {
                if (fiveAt(i) == UNTOLD_LETTER) {
                    return false;
                }
            }
            return size > 0;
        }

        boolean isAs(Letters other) {
            if (size != other.size) {
                return false;
            }
            for (int i = 0; i < size; i++) {
                if (fiveAt(i) != other.fiveAt(i)) {
                    return false;
                }
            }
            return true;
        }

        /** Becomes what a CLOTH says, and whether it says something. */
        boolean hear(Cloth cloth, Walk walk) {
            size = 0;
            for (int n = 0; n < walk.bits / BITS_A_LETTER; n++) {
                int five = walk.fiveTells(cloth, n);
                if (five == END_OF_WORDS) {
                    return size > 0;
                }
                if (five > LAST_LETTER && five != UNTOLD_LETTER) {
                    return false;
                }
                add(five);
            }
            return false;
        }

        /** Puts these WORDS into a CLOTH: how many places were changed. */
        int weaveInto(Cloth cloth, Pattern pattern, Walk walk) {
            int changed = 0;
            for (int n = 0; n <= size; n++) {
                int five = n < size ? fiveAt(n) : END_OF_WORDS;
                for (int i = 0; i < BITS_A_LETTER; i++) {
                    int value = five >> (BITS_A_LETTER - 1 - i) & 1;
                    changed += walk.setBit(cloth, pattern, n * BITS_A_LETTER + i, value);
                }
            }
            return changed;
        }
    }

    private static final class Cloth {
        private static final long FACTOR = 1_103_515_245L;
        private static final long ADDED = 12_345L;
        private static final long MODULUS = 2_147_483_648L;

        private final byte[] stitches = new byte[MOST_PLACES];
        private boolean there;

        int stitchAt(int place) {
            return place >= 0 && place < MOST_PLACES ? stitches[place] : LOST;
        }

        void setStitch(int place, int stitch) {
            if (place >= 0 && place < MOST_PLACES) {
                stitches[place] = (byte) stitch;
            }
        }

        void takeFrom(Cloth other) {
            System.arraycopy(other.stitches, 0, stitches, 0, MOST_PLACES);
            there = other.there;
        }

        /** Knits without words: how many FREE places are not plain. */
        int knitBy(Pattern pattern, int[] shares, int seed) {
            there = true;
            long x = seed;
            int notPlain = 0;
            for (int place = 0; place < pattern.places(); place++) {
                int sort = pattern.sortAt(place) - FREE_F;
                if (sort >= 0 && sort < shares.length) {
                    x = (FACTOR * x + ADDED) % MODULUS;
                    boolean isPlain = x / 65_536 % 100 >= shares[sort];
                    setStitch(place, isPlain ? PLAIN : pattern.notPlainAt(place));
                    notPlain += isPlain ? 0 : 1;
                } else {
                    setStitch(place, sort == PURL - FREE_F ? PURL : PLAIN);
                }
            }
            return notPlain;
        }

        /** A ball from its end on is the order of knitting, so what is left moves up in it. */
        void knitBackFrom(Cloth other, Pattern pattern) {
            there = true;
            int knitted = 0;
            for (int n = 0; n < pattern.places(); n++) {
                int stitch = other.stitchAt(pattern.knittedAs(n));
                if (stitch != LOST) {
                    setStitch(pattern.knittedAs(knitted), stitch);
                    knitted++;
                }
            }
            for (int n = knitted; n < pattern.places(); n++) {
                setStitch(pattern.knittedAs(n), LOST);
            }
        }

        int placesUnlike(Cloth other, Pattern pattern) {
            int unlike = 0;
            for (int place = 0; place < pattern.places(); place++) {
                if (stitchAt(place) != other.stitchAt(place)) {
                    unlike++;
                }
            }
            return unlike;
        }

        int lostPlaces(Pattern pattern) {
            int lost = 0;
            for (int place = 0; place < pattern.places(); place++) {
                if (stitchAt(place) == LOST) {
                    lost++;
                }
            }
            return lost;
        }
    }

    private static final class Losses {
        private static final int ROWS = 0;
        private static final int COLUMNS = 1;
        private static final int MOTH = 2;
        private static final int WASH = 3;

        private final int[] kinds = new int[MOST_LINES];
        private final int[] firsts = new int[MOST_LINES];
        private final int[] seconds = new int[MOST_LINES];
        private int lines;

        void takeFrom(Losses other) {
            System.arraycopy(other.kinds, 0, kinds, 0, MOST_LINES);
            System.arraycopy(other.firsts, 0, firsts, 0, MOST_LINES);
            System.arraycopy(other.seconds, 0, seconds, 0, MOST_LINES);
            lines = other.lines;
        }

        boolean tell(Tape tape) {
            tape.start();
            lines = 0;
            for (int n = 0; n <= MOST_LINES && tape.goesOn(); n++) {
                tellLoss(tape);
            }
            return tape.isFine();
        }

        private void tellLoss(Tape tape) {
            boolean begins = tape.isWord("lose") || tape.isWord("moth") || tape.isWord("wash");
            if (lines >= MOST_LINES) {
                tape.complain(begins ? Tape.TOO_MANY : Tape.CANNOT_STAND);
                return;
            }
            if (tape.mayTakeWord("moth")) {
                kinds[lines] = MOTH;
                firsts[lines] = tape.takeNumber(1, 99);
                tape.takeWord("from");
                seconds[lines] = tape.takeNumber(0, MOST_PLACES - 1);
            } else if (tape.mayTakeWord("wash")) {
                kinds[lines] = WASH;
            } else {
                tape.takeWord("lose");
                tellStretch(tape);
            }
            tape.takeSemicolon();
            lines++;
        }

        private void tellStretch(Tape tape) {
            if (lines >= MOST_LINES) {
                return;
            }
            kinds[lines] = tape.isWord("columns") ? COLUMNS : ROWS;
            tape.takeWord(kinds[lines] == COLUMNS ? "columns" : "rows");
            firsts[lines] = tape.takeNumber(0, MOST_SIDE - 1);
            tape.takeWord("to");
            seconds[lines] = tape.takeNumber(firsts[lines], MOST_SIDE - 1);
        }

        void wear(Cloth cloth, Pattern pattern) {
            for (int line = 0; line < lines && line < MOST_LINES; line++) {
                for (int place = 0; place < pattern.places(); place++) {
                    if (takes(line, place, pattern)) {
                        cloth.setStitch(place, LOST);
                    } else if (kinds[line] == WASH && cloth.stitchAt(place) == HOLE) {
                        cloth.setStitch(place, PLAIN);
                    }
                }
            }
        }

        private boolean takes(int line, int place, Pattern pattern) {
            if (line < 0 || line >= MOST_LINES) {
                return false;
            }
            int first = firsts[line];
            int second = seconds[line];
            switch (kinds[line]) {
                case ROWS:
                    return pattern.rowOf(place) >= first && pattern.rowOf(place) <= second;
                case COLUMNS:
                    return pattern.columnOf(place) >= first && pattern.columnOf(place) <= second;
                case MOTH:
                    return place >= second && first > 0 && (place - second) % first == 0;
                default:
                    return false;
            }
        }
    }

    /** What the WATCHER counts in a CLOTH, kept up while single places of a copy change. */
    private static final class Tally {
        private final Cloth cloth = new Cloth();
        private final int[] ofStitch = new int[LOST + 1];
        private final int[] inRow = new int[MOST_SIDE];
        // Of each f the f ahead of it and the one behind it, so that a change is counted at once.
        private final int[] ahead = new int[MOST_PLACES];
        private final int[] behind = new int[MOST_PLACES];
        private int wide;
        private int high;
        private int free;
        private int lost;
        private int runs;

        void countOver(Pattern pattern, Cloth counted) {
            cloth.takeFrom(counted);
            Arrays.fill(ofStitch, 0);
            Arrays.fill(inRow, 0);
            Arrays.fill(ahead, NONE);
            Arrays.fill(behind, NONE);
            wide = pattern.wide;
            high = Math.min(pattern.high, MOST_SIDE);
            free = pattern.free;
            lost = counted.lostPlaces(pattern);
            runs = 0;
            int lastF = NONE;
            for (int i = 0; i < free; i++) {
                int place = pattern.freePlace(i);
                addStitch(place, 1);
                if (pattern.sortAt(place) == FREE_F) {
                    link(lastF, place);
                    runs += isRun(lastF, place) ? 1 : 0;
                    lastF = place;
                }
            }
        }

        private void link(int first, int second) {
            if (first >= 0 && first < MOST_PLACES && second >= 0 && second < MOST_PLACES) {
                behind[first] = second;
                ahead[second] = first;
            }
        }

        private boolean isRun(int first, int second) {
            int one = cloth.stitchAt(first);
            int other = cloth.stitchAt(second);
            return one != LOST && other != LOST && one != other;
        }

        private void addStitch(int place, int by) {
            int stitch = cloth.stitchAt(place);
            int row = wide > 0 ? place / wide : NONE;
            if (stitch > PLAIN && stitch < LOST && row >= 0 && row < MOST_SIDE) {
                ofStitch[stitch] += by;
                inRow[row] += by;
            }
        }

        /** Another stitch in a FREE place; neither is lost. */
        void change(int place, int stitch) {
            if (place < 0 || place >= MOST_PLACES) {
                return;
            }
            addStitch(place, -1);
            runs -= runsAt(place);
            cloth.setStitch(place, stitch);
            runs += runsAt(place);
            addStitch(place, 1);
        }

        private int runsAt(int place) {
            if (place < 0 || place >= MOST_PLACES) {
                return 0;
            }
            return (isRun(ahead[place], place) ? 1 : 0) + (isRun(place, behind[place]) ? 1 : 0);
        }

        int valueOf(int what) {
            switch (what) {
                case RUNS:
                    return runs;
                case MOST:
                    return mostInRow();
                case LEAST:
                    return leastInRow();
                case LOST_PLACES:
                    return lost;
                case FREE_PLACES:
                    return free;
                default:
                    return what >= 0 && what < RUNS ? ofStitch[PURL + what] : 0;
            }
        }

        private int mostInRow() {
            int most = 0;
            for (int row = 0; row < high; row++) {
                if (inRow[row] > most) {
                    most = inRow[row];
                }
            }
            return most;
        }

        private int leastInRow() {
            int least = MOST_SIDE;
            for (int row = 0; row < high; row++) {
                if (inRow[row] < least) {
                    least = inRow[row];
                }
            }
            return least;
        }
    }

    /** The LINES as codes: numbers as they are, what is counted, and what links these. */
    private static final class Watcher {
        private static final int MOST_NUMBER = 999;
        private static final int COUNTER = 1000;
        private static final int PLUS = 2000;
        private static final int MINUS = 2001;
        private static final int TIMES = 2002;
        private static final int MORE = 2003;
        private static final int LESS = 2004;
        private static final int SAME = 2005;
        private static final int AND = 2006;
        private static final int END_OF_LINE = 2007;

        // A TEST of four codes takes at least nine bytes of the TAPE, which has 600.
        private static final int MOST_CODES = 300;
        private static final long MOST_ON_THE_WAY = 1_000_000_000L;
        private static final long BEYOND = Long.MAX_VALUE;

        private final int[] codes = new int[MOST_CODES];
        private int size;
        private int lines;

        void takeFrom(Watcher other) {
            System.arraycopy(other.codes, 0, codes, 0, MOST_CODES);
            size = other.size;
            lines = other.lines;
        }

        boolean tell(Tape tape) {
            tape.start();
            size = 0;
            lines = 0;
            for (int n = 0; n <= MOST_LINES && tape.goesOn(); n++) {
                if (n == MOST_LINES && tape.isWord("stop")) {
                    tape.complain(Tape.TOO_MANY);
                }
                tellLine(tape);
                lines++;
            }
            return tape.isFine();
        }

        private void tellLine(Tape tape) {
            tape.takeWord("stop");
            tape.takeWord("if");
            boolean compared = false;
            for (int n = 0; n < MOST_CODES && tape.isFine(); n++) {
                tellPart(tape);
                int link = linkAt(tape, compared);
                if (link == NONE) {
                    tape.complain(Tape.CANNOT_STAND);
                }
                tape.advance();
                addCode(link);
                if (link == END_OF_LINE) {
                    return;
                }
                compared = link != AND && (compared || link >= MORE);
            }
        }

        private void tellPart(Tape tape) {
            if (tape.isNumber()) {
                addCode(tape.takeNumber(0, MOST_NUMBER));
                return;
            }
            for (int what = 0; what < COUNTERS; what++) {
                if (tape.mayTakeWord(nameOfCounter(what))) {
                    addCode(COUNTER + what);
                    return;
                }
            }
            tape.complain(Tape.CANNOT_STAND);
        }

        private static int linkAt(Tape tape, boolean compared) {
            if (compared && tape.isSemicolon()) {
                return END_OF_LINE;
            }
            for (int link = PLUS; link <= AND; link++) {
                boolean mayStand = link <= TIMES || (link == AND) == compared;
                if (mayStand && tape.isWord(nameOfLink(link))) {
                    return link;
                }
            }
            return NONE;
        }

        private void addCode(int code) {
            if (size < MOST_CODES) {
                codes[size] = code;
                size++;
            }
        }

        private static String nameOfCounter(int what) {
            switch (what) {
                case 0:
                    return "purls";
                case 1:
                    return "holes";
                case 2:
                    return "slips";
                case RUNS:
                    return "runs";
                case MOST:
                    return "most";
                case LEAST:
                    return "least";
                case LOST_PLACES:
                    return "lost";
                default:
                    return "free";
            }
        }

        private static String nameOfLink(int link) {
            switch (link) {
                case PLUS:
                    return "plus";
                case MINUS:
                    return "minus";
                case TIMES:
                    return "times";
                case MORE:
                    return "more";
                case LESS:
                    return "less";
                case SAME:
                    return "same";
                default:
                    return "and";
            }
        }

        private int codeAt(int i) {
            return i >= 0 && i < size && i < MOST_CODES ? codes[i] : END_OF_LINE;
        }

        /** The first LINE that stops what was counted; NONE if none does. */
        int lineThatStops(Tally tally) {
            int line = 0;
            int testFrom = 0;
            boolean allHold = true;
            for (int i = 0; i < size; i++) {
                int code = codeAt(i);
                if (code == AND || code == END_OF_LINE) {
                    allHold = allHold && testHolds(testFrom, i, tally);
                    testFrom = i + 1;
                }
                if (code == END_OF_LINE) {
                    if (allHold) {
                        return line;
                    }
                    allHold = true;
                    line++;
                }
            }
            return NONE;
        }

        private boolean testHolds(int from, int to, Tally tally) {
            int sign = from;
            while (sign < to && (codeAt(sign) < MORE || codeAt(sign) > SAME)) {
                sign++;
            }
            long left = sumOf(from, sign, tally);
            long right = sumOf(sign + 1, to, tally);
            if (left == BEYOND || right == BEYOND) {
                return false;
            }
            switch (codeAt(sign)) {
                case MORE:
                    return left > right;
                case LESS:
                    return left < right;
                default:
                    return left == right;
            }
        }

        private long sumOf(int from, int to, Tally tally) {
            long sum = 0;
            long term = 1;
            int sign = 1;
            for (int i = from; i < to; i++) {
                int code = codeAt(i);
                if (code == PLUS || code == MINUS) {
                    sum += sign * term;
                    sign = code == PLUS ? 1 : -1;
                    term = 1;
                } else if (code != TIMES) {
                    term *= code < COUNTER ? code : tally.valueOf(code - COUNTER);
                }
                if (isBeyond(sum) || isBeyond(term)) {
                    return BEYOND;
                }
            }
            sum += sign * term;
            return isBeyond(sum) ? BEYOND : sum;
        }

        private static boolean isBeyond(long number) {
            return number > MOST_ON_THE_WAY || number < -MOST_ON_THE_WAY;
        }
    }

    /** A row of numbers, all held wide and cut when they are written. */
    private static final class Slot {
        private final long[] numbers = new long[MOST_NUMBERS];
        private int width = NONE;
        private int size;

        boolean isThere() {
            return width != NONE;
        }

        void begin(int newWidth, int n) {
            width = newWidth;
            size = n;
            Arrays.fill(numbers, 0L);
        }

        /** Whether it has n numbers from the i-th on. */
        boolean has(int i, int n) {
            return i >= 0 && n >= 0 && i <= size && n <= size - i;
        }

        void set(int i, long v) {
            if (i >= 0 && i < MOST_NUMBERS) {
                numbers[i] = cutToWidth(v);
            }
        }

        boolean isZero(int i) {
            return i < 0 || i >= MOST_NUMBERS || numbers[i] == 0;
        }

        private long cutToWidth(long v) {
            switch (width) {
                case 0:
                    return (byte) v;
                case 1:
                    return (short) v;
                case 2:
                    return (int) v;
                default:
                    return v;
            }
        }
    }
}
