/** All promises: what a refused call answers, and that it leaves all as the document says; calls that only ask change nothing. */
public final class RefusalsTest {
    private static final Check CHECK = new Check("RefusalsTest");
    private static final Twins FULL = new Twins(CHECK, Twins::full);
    private static final Twins NEW = new Twins(CHECK, StitchSays::new);
    private static final int LEAST = Integer.MIN_VALUE;
    private static final int MOST = Integer.MAX_VALUE;

    // What is beside the numbers that there are.
    private static final int[] NO_IMAGE = {LEAST, -1, 3, MOST};
    private static final int[] NO_CLOTH = {LEAST, -1, 4, MOST};
    private static final int[] NO_SLOT = {LEAST, -1, 4, MOST};
    private static final int[] NO_WAY = {LEAST, -1, 6, MOST};
    private static final int[] NO_SEED = {LEAST, -1, 2_000_000_001, MOST};
    private static final int[] NO_MANY = {LEAST, -1, 0, 51, MOST};

    // What there is not in Twins.full().
    private static final int CLOTH_NOT_THERE = 2;
    private static final int[] WAYS_NOT_THERE = {1, 2, 4, 5};

    public static void main(String[] args) {
        tape();
        faultyTexts();
        wordsThatAreNotPut();
        noSuchCloth();
        noSuchWay();
        noSuchSeed();
        noSuchPlace();
        whatIsNotRead();
        imagesAndRows();
        pastes();
        nothingThereYet();
        onlyAsked();
        CHECK.finish();
    }

    /** Promises 2, 3, 9. */
    private static void tape() {
        for (int bytes = 581; bytes <= 600; bytes++) {
            String text = "way over f;" + " ".repeat(bytes - 11);
            Twins twins = new Twins(CHECK, () -> Twins.full(text));
            twins.stay("feed behind " + bytes + " bytes", x -> x.feed(-1, -1, -1, -1, -1), -1);
        }
        for (int n : new int[] {LEAST, -1, 12, MOST}) {
            FULL.stay("end(" + n + ")", x -> x.end(n), -1);
        }
        for (int what : new int[] {LEAST, -1, 2, MOST}) {
            FULL.stay("fault(" + what + ")", x -> x.fault(what), -1);
        }
    }

    private static Twins withTape(String text) {
        return new Twins(CHECK, () -> Twins.full(text));
    }

    /** Promises 4 to 8: -4, "all stays". The FAULT stands as far behind as it can, so that all else was told. */
    private static void faultyTexts() {
        withTape("").onlyEmptyTheTape("pattern() of none", x -> x.pattern(), -4, 1, 0);
        withTape("wide 3 rows 2;row f;x").onlyEmptyTheTape("pattern() with x", x -> x.pattern(), -4, 1, 20);
        withTape("wide 3 rows 17;row f;").onlyEmptyTheTape("pattern() of 17 rows", x -> x.pattern(), -4, 2, 12);
        withTape("wide 3 rows 2;" + "row f;".repeat(9)).onlyEmptyTheTape("pattern() of nine", x -> x.pattern(), -4, 3, 62);
        withTape("").onlyEmptyTheTape("hand() of none", x -> x.hand(), -4, 1, 0);
        withTape("hand f 0 h 0 m 0").onlyEmptyTheTape("hand() without ;", x -> x.hand(), -4, 1, 16);
        withTape("hand f 0 h 0 m 101;").onlyEmptyTheTape("hand() of 101", x -> x.hand(), -4, 2, 15);
        for (int k = 0; k < 6; k++) {
            int way = k;
            withTape("").onlyEmptyTheTape("way(" + k + ") of none", x -> x.way(way), -4, 1, 0);
            withTape("way over h top;;").onlyEmptyTheTape("way(" + k + ") of ;;", x -> x.way(way), -4, 1, 15);
            withTape("way over h guard 2;").onlyEmptyTheTape("way(" + k + ") of 2", x -> x.way(way), -4, 2, 17);
        }
        withTape("stop if 1 same 1;x").onlyEmptyTheTape("watcher() with x", x -> x.watcher(), -4, 1, 17);
        withTape("stop if 1 same 1000;").onlyEmptyTheTape("watcher() of 1000", x -> x.watcher(), -4, 2, 15);
        withTape("stop if 1 same 1;".repeat(13)).onlyEmptyTheTape("watcher() of 13", x -> x.watcher(), -4, 3, 204);
        withTape("moth 1 from 0;x").onlyEmptyTheTape("losses() with x", x -> x.losses(), -4, 1, 14);
        withTape("wash;moth 1 from 256;").onlyEmptyTheTape("losses() of 256", x -> x.losses(), -4, 2, 17);
        withTape("wash;".repeat(13)).onlyEmptyTheTape("losses() of 13", x -> x.losses(), -4, 3, 60);
        for (int k : NO_WAY) {
            FULL.stay("way(" + k + ")", x -> x.way(k), -2);
            withTape("x").stay("way(" + k + ") of a FAULT", x -> x.way(k), -2);
        }
    }

    /** Promise 11: -4, -3, and the TAPE by -2, -6. */
    private static void wordsThatAreNotPut() {
        for (int c : new int[] {0, 1, 3}) {
            for (int k : new int[] {0, 3}) {
                String put = "put(" + c + ", " + k + ")";
                withTape("").onlyEmptyTheTape(put + " of none", x -> x.put(c, k), -4, 1, 0);
                withTape("a\n").onlyEmptyTheTape(put + " of byte 10", x -> x.put(c, k), -4, 1, 1);
                withTape("a".repeat(599) + "A").onlyEmptyTheTape(put + " of A", x -> x.put(c, k), -4, 1, 599);
                // WAY 0 has room for two LETTERS, WAY 3 for none.
                withTape(k == 0 ? "abc" : "a").onlyEmptyTheTape(put + " without room", x -> x.put(c, k), -3, 0, -1);
                withTape("z".repeat(600)).onlyEmptyTheTape(put + " of 600", x -> x.put(c, k), -3, 0, -1);
            }
        }
        for (String text : new String[] {"a", "", "A"}) {
            for (int c : NO_CLOTH) {
                withTape(text).stay("put(" + c + ", 0)", x -> x.put(c, 0), -2);
                withTape(text).stay("put(" + c + ", 1)", x -> x.put(c, 1), -2);
            }
            for (int k : NO_WAY) {
                withTape(text).stay("put(0, " + k + ")", x -> x.put(0, k), -2);
                withTape(text).stay("put(2, " + k + ")", x -> x.put(CLOTH_NOT_THERE, k), -2);
            }
            withTape(text).stay("put(2, 0)", x -> x.put(CLOTH_NOT_THERE, 0), -6);
            for (int k : WAYS_NOT_THERE) {
                withTape(text).stay("put(0, " + k + ")", x -> x.put(0, k), -6);
            }
        }
    }

    /** All promises that name a CLOTH. */
    private static void noSuchCloth() {
        for (int c : NO_CLOTH) {
            FULL.stay("knit(" + c + ", 0)", x -> x.knit(c, 0), -2);
            FULL.stay("read(" + c + ", 0)", x -> x.read(c, 0), -2);
            FULL.stay("bit(" + c + ", 0, 0)", x -> x.bit(c, 0, 0), -2);
            FULL.stay("dim(" + c + ", 0)", x -> x.dim(c, 0), -2);
            FULL.stay("says(" + c + ")", x -> x.says(c), -2);
            FULL.stay("at(" + c + ", 0, 0)", x -> x.at(c, 0, 0), -1);
            FULL.stay("counts(" + c + ", 0)", x -> x.counts(c, 0), -2);
            FULL.stay("stops(" + c + ")", x -> x.stops(c), -2);
            FULL.stay("best(" + c + ")", x -> x.best(c), -2);
            FULL.stay("lose(" + c + ")", x -> x.lose(c), -2);
            FULL.stay("ball(" + c + ", 0)", x -> x.ball(c, 0), -2);
            FULL.stay("turn(" + c + ", 0, 0)", x -> x.turn(c, 0, 0), -2);
            FULL.stay("mend(" + c + ")", x -> x.mend(c), -2);
            FULL.stay("lay(0, " + c + ")", x -> x.lay(0, c), -2);
            FULL.stay("lay(3, " + c + ")", x -> x.lay(3, c), -2);
            for (int other = 0; other < 3; other++) {
                int d = other;
                FULL.stay("alike(" + c + ", " + d + ")", x -> x.alike(c, d), -2);
                FULL.stay("alike(" + d + ", " + c + ")", x -> x.alike(d, c), -2);
                FULL.stay("same(" + c + ", " + d + ", 0)", x -> x.same(c, d, 0), -2);
                FULL.stay("same(" + d + ", " + c + ", 1)", x -> x.same(d, c, 1), -2);
                FULL.stay("rewind(" + c + ", " + d + ")", x -> x.rewind(c, d), -2);
                FULL.stay("rewind(" + d + ", " + c + ")", x -> x.rewind(d, c), -2);
                FULL.stay("copy(" + c + ", " + d + ")", x -> x.copy(c, d), -2);
                FULL.stay("copy(" + d + ", " + c + ")", x -> x.copy(d, c), -2);
            }
        }
        clothNotThere(FULL, CLOTH_NOT_THERE);
        for (int d : new int[] {0, 1, 3}) {
            FULL.stay("alike(2, " + d + ")", x -> x.alike(CLOTH_NOT_THERE, d), -6);
            FULL.stay("alike(" + d + ", 2)", x -> x.alike(d, CLOTH_NOT_THERE), -6);
            FULL.stay("same(2, " + d + ", 0)", x -> x.same(CLOTH_NOT_THERE, d, 0), -6);
            FULL.stay("same(" + d + ", 2, 0)", x -> x.same(d, CLOTH_NOT_THERE, 0), -6);
            FULL.stay("rewind(2, " + d + ")", x -> x.rewind(CLOTH_NOT_THERE, d), -6);
            FULL.stay("rewind(" + d + ", 2)", x -> x.rewind(d, CLOTH_NOT_THERE), -6);
            FULL.stay("copy(2, " + d + ")", x -> x.copy(CLOTH_NOT_THERE, d), -6);
        }
    }

    private static void clothNotThere(Twins twins, int c) {
        twins.stay("read(" + c + ", 0)", x -> x.read(c, 0), -6);
        twins.stay("bit(" + c + ", 0, 0)", x -> x.bit(c, 0, 0), -6);
        twins.stay("bit(" + c + ", 0, -1)", x -> x.bit(c, 0, -1), -6);
        twins.stay("dim(" + c + ", 0)", x -> x.dim(c, 0), -6);
        twins.stay("says(" + c + ")", x -> x.says(c), -6);
        twins.stay("at(" + c + ", 0, 0)", x -> x.at(c, 0, 0), -1);
        for (int what = 0; what <= 7; what++) {
            int counted = what;
            twins.stay("counts(" + c + ", " + what + ")", x -> x.counts(c, counted), -6);
        }
        twins.stay("counts(" + c + ", 8)", x -> x.counts(c, 8), -2);
        twins.stay("counts(" + c + ", -1)", x -> x.counts(c, -1), -2);
        twins.stay("stops(" + c + ")", x -> x.stops(c), -6);
        twins.stay("best(" + c + ")", x -> x.best(c), -6);
        twins.stay("lose(" + c + ")", x -> x.lose(c), -6);
        twins.stay("alike with itself(" + c + ")", x -> x.alike(c, c), -6);
        twins.stay("same with itself(" + c + ")", x -> x.same(c, c, 0), -6);
        twins.stay("ball(" + c + ", 0)", x -> x.ball(c, 0), -6);
        twins.stay("ball(" + c + ", -1)", x -> x.ball(c, -1), -6);
        twins.stay("rewind into itself(" + c + ")", x -> x.rewind(c, c), -6);
        twins.stay("copy into itself(" + c + ")", x -> x.copy(c, c), -6);
        twins.stay("mend(" + c + ")", x -> x.mend(c), -6);
        twins.stay("lay(0, " + c + ")", x -> x.lay(0, c), -6);
        twins.stay("lay(3, " + c + ")", x -> x.lay(3, c), -6);
    }

    /** All promises that name a WAY. */
    private static void noSuchWay() {
        for (int k : NO_WAY) {
            dueOfWay(FULL, k, -2);
            FULL.stay("read(2, " + k + ")", x -> x.read(CLOTH_NOT_THERE, k), -2);
            FULL.stay("bit(2, " + k + ", 0)", x -> x.bit(CLOTH_NOT_THERE, k, 0), -2);
            FULL.stay("dim(2, " + k + ")", x -> x.dim(CLOTH_NOT_THERE, k), -2);
            FULL.stay("same(0, 2, " + k + ")", x -> x.same(0, CLOTH_NOT_THERE, k), -2);
            NEW.stay("carries(" + k + ", 0, 1)", x -> x.carries(k, 0, 1), -2);
        }
        for (int k : WAYS_NOT_THERE) {
            dueOfWay(FULL, k, -6);
        }
    }

    private static void dueOfWay(Twins twins, int k, int due) {
        twins.stay("read(0, " + k + ")", x -> x.read(0, k), due);
        twins.stay("bit(0, " + k + ", 0)", x -> x.bit(0, k, 0), due);
        twins.stay("dim(0, " + k + ")", x -> x.dim(0, k), due);
        twins.stay("place(" + k + ", 0)", x -> x.place(k, 0), due);
        twins.stay("place(" + k + ", -1)", x -> x.place(k, -1), due);
        twins.stay("room(" + k + ")", x -> x.room(k), due);
        twins.stay("most(" + k + ")", x -> x.most(k), due);
        twins.stay("carries(" + k + ", 0, 1)", x -> x.carries(k, 0, 1), due);
        twins.stay("same(0, 1, " + k + ")", x -> x.same(0, 1, k), due);
    }

    /** Promises 10, 24, 25. */
    private static void noSuchSeed() {
        for (int seed : NO_SEED) {
            for (Twins twins : new Twins[] {FULL, NEW}) {
                twins.stay("knit(0, " + seed + ")", x -> x.knit(0, seed), -2);
                twins.stay("knit(2, " + seed + ")", x -> x.knit(2, seed), -2);
                twins.stay("odds(" + seed + ", 1)", x -> x.odds(seed, 1), -2);
                twins.stay("carries(0, " + seed + ", 1)", x -> x.carries(0, seed, 1), -2);
                twins.stay("carries(1, " + seed + ", 1)", x -> x.carries(1, seed, 1), -2);
            }
        }
        for (int n : NO_MANY) {
            for (Twins twins : new Twins[] {FULL, NEW}) {
                twins.stay("odds(0, " + n + ")", x -> x.odds(0, n), -2);
                twins.stay("carries(0, 0, " + n + ")", x -> x.carries(0, 0, n), -2);
                twins.stay("carries(1, 0, " + n + ")", x -> x.carries(1, 0, n), -2);
            }
        }
        FULL.stay("carries without room", x -> x.carries(3, 0, 1), -3);
    }

    /** Promises 13, 14, 17, 18, 19, 22, 30, 33, 35. */
    private static void noSuchPlace() {
        for (int i : new int[] {LEAST, -1, 1, MOST}) {
            FULL.stay("letter(" + i + ")", x -> x.letter(i), -1);
        }
        for (int i : new int[] {LEAST, -1, 15, MOST}) {
            FULL.stay("bit(0, 0, " + i + ")", x -> x.bit(0, 0, i), -1);
            FULL.stay("place(0, " + i + ")", x -> x.place(0, i), -1);
        }
        for (int i : new int[] {LEAST, -1, 18, MOST}) {
            FULL.stay("ball(0, " + i + ")", x -> x.ball(0, i), -1);
        }
        for (int row : new int[] {LEAST, -1, 3, MOST}) {
            FULL.stay("at(0, " + row + ", 0)", x -> x.at(0, row, 0), -1);
            FULL.stay("sort(" + row + ", 0)", x -> x.sort(row, 0), -1);
            FULL.stay("turn(0, " + row + ", 0)", x -> x.turn(0, row, 0), -2);
            FULL.stay("turn(2, " + row + ", 0)", x -> x.turn(CLOTH_NOT_THERE, row, 0), -2);
        }
        for (int column : new int[] {LEAST, -1, 6, MOST}) {
            FULL.stay("at(0, 1, " + column + ")", x -> x.at(0, 1, column), -1);
            FULL.stay("sort(1, " + column + ")", x -> x.sort(1, column), -1);
            FULL.stay("turn(0, 1, " + column + ")", x -> x.turn(0, 1, column), -2);
            FULL.stay("turn(2, 1, " + column + ")", x -> x.turn(CLOTH_NOT_THERE, 1, column), -2);
        }
        for (int what : new int[] {LEAST, -1, 8, MOST}) {
            FULL.stay("counts(0, " + what + ")", x -> x.counts(0, what), -2);
        }
        for (int what : new int[] {LEAST, -1, 10, MOST}) {
            FULL.stay("count(" + what + ")", x -> x.count(what), -1);
        }
        FULL.stay("turn of what is not FREE", x -> x.turn(0, 0, 1), -2);
        FULL.stay("turn of what is lost and not FREE", x -> x.turn(1, 0, 1), -2);
        FULL.stay("turn of what is not FREE in no CLOTH", x -> x.turn(CLOTH_NOT_THERE, 0, 1), -2);
        FULL.stay("turn in no CLOTH", x -> x.turn(CLOTH_NOT_THERE, 0, 0), -6);
        FULL.stay("turn of what is lost", x -> x.turn(1, 0, 5), -5);
        FULL.stay("turn of what a moth took", x -> x.turn(1, 1, 2), -5);
    }

    private static StitchSays withDoubt() {
        StitchSays x = Twins.full();
        Check.losses(x, "moth 99 from 0;");
        x.lose(0);
        x.read(0, 0);
        return x;
    }

    private static StitchSays withNothingRead() {
        StitchSays x = new StitchSays();
        Check.pattern(x, "wide 6 rows 3;row fkfhfm;");
        Check.way(x, 0, "way over fhm;");
        Check.way(x, 3, "way over f step 9;");
        x.knit(0, 0);
        return x;
    }

    /** Promises 12, 25, 26: it says nothing, nothing was read yet, or a LETTER can't be told. */
    private static void whatIsNotRead() {
        FULL.stay("read of a CLOTH that says nothing", x -> x.read(1, 0), -1);
        FULL.stay("read by a WAY that says nothing", x -> x.read(0, 3), -1);
        Twins nothing = new Twins(CHECK, RefusalsTest::withNothingRead);
        Twins doubt = new Twins(CHECK, RefusalsTest::withDoubt);
        for (Twins twins : new Twins[] {nothing, doubt}) {
            twins.stay("carries", x -> x.carries(0, 0, 1), -5);
            twins.stay("carries without room", x -> x.carries(3, 0, 1), -5);
            twins.stay("best", x -> x.best(0), -5);
            twins.stay("best of no CLOTH", x -> x.best(2), -6);
            twins.stay("best of no number", x -> x.best(4), -2);
            twins.stay("carries by no WAY", x -> x.carries(1, 0, 1), -6);
        }
        nothing.stay("read of what says nothing", x -> x.read(0, 0), -1);
        nothing.stay("letter", x -> x.letter(0), -1);
        doubt.stay("the LETTER that can't be told", x -> x.letter(0), 63);
    }

    /** Promises 36 to 39, 41. */
    private static void imagesAndRows() {
        for (int k : NO_IMAGE) {
            FULL.stay("keep(" + k + ")", x -> x.keep(k), -2);
            FULL.stay("back(" + k + ")", x -> x.back(k), -2);
        }
        FULL.stay("back(2)", x -> x.back(2), -6);
        for (int slot : NO_SLOT) {
            FULL.stay("row(" + slot + ", 0, 1)", x -> x.row(slot, 0, 1), -2);
            FULL.stay("row(" + slot + ", 0, -1)", x -> x.row(slot, 0, -1), -2);
            FULL.stay("write(" + slot + ", 0, 1)", x -> x.write(slot, 0, 1), -2);
            FULL.stay("write(" + slot + ", -1, 1)", x -> x.write(slot, -1, 1), -2);
            FULL.stay("lay(" + slot + ", 0)", x -> x.lay(slot, 0), -2);
            FULL.stay("lay(" + slot + ", 2)", x -> x.lay(slot, CLOTH_NOT_THERE), -2);
        }
        for (int slot = 0; slot < 4; slot++) {
            int s = slot;
            for (int width : NO_SLOT) {
                FULL.stay("row(" + s + ", " + width + ", 1)", x -> x.row(s, width, 1), -2);
                FULL.stay("row(" + s + ", " + width + ", -1)", x -> x.row(s, width, -1), -2);
                FULL.stay("row(" + s + ", " + width + ", 61)", x -> x.row(s, width, 61), -2);
            }
            for (int width = 0; width < 4; width++) {
                int w = width;
                FULL.stay("row(" + s + ", " + w + ", 61)", x -> x.row(s, w, 61), -2);
                FULL.stay("row(" + s + ", " + w + ", most)", x -> x.row(s, w, MOST), -2);
                FULL.stay("row(" + s + ", " + w + ", -1)", x -> x.row(s, w, -1), -3);
                FULL.stay("row(" + s + ", " + w + ", least)", x -> x.row(s, w, LEAST), -3);
            }
        }
        for (int i : new int[] {LEAST, -1, 0, MOST}) {
            FULL.stay("write(3, " + i + ", 1)", x -> x.write(3, i, 1), -6);
        }
        for (int i : new int[] {LEAST, -1, 3, 59, 60, MOST}) {
            FULL.stay("write(0, " + i + ", 1)", x -> x.write(0, i, 1), -7);
        }
        FULL.stay("lay(3, 0)", x -> x.lay(3, 0), -6);
    }

    /** Promise 40. SLOTS 0 and 1 have 3 and 5 numbers of one WIDTH, 2 has 4 of another, 3 has nothing. */
    private static void pastes() {
        for (int slot : NO_SLOT) {
            for (int other = 0; other < 4; other++) {
                int to = other;
                FULL.stay("paste(" + slot + " to " + to + ")", x -> x.paste(slot, 0, to, 0, 1), -2);
                FULL.stay("paste(" + to + " to " + slot + ")", x -> x.paste(to, -1, slot, 0, 1), -2);
            }
            FULL.stay("paste(" + slot + " to itself)", x -> x.paste(slot, 0, slot, 0, 0), -2);
        }
        for (int other = 0; other < 4; other++) {
            int to = other;
            FULL.stay("paste(3 to " + to + ")", x -> x.paste(3, 0, to, 0, 0), -6);
            FULL.stay("paste(" + to + " to 3)", x -> x.paste(to, 0, 3, 0, -1), -6);
        }
        for (int other = 0; other < 2; other++) {
            int to = other;
            FULL.stay("paste(2 to " + to + ")", x -> x.paste(2, 0, to, 0, 0), -8);
            FULL.stay("paste(" + to + " to 2)", x -> x.paste(to, 0, 2, 0, 1), -8);
            FULL.stay("paste(" + to + " to 2) and beyond", x -> x.paste(to, -1, 2, 99, -1), -8);
        }
        int[][] beyond = {{-1, 0, 1}, {LEAST, 0, 1}, {0, -1, 1}, {0, LEAST, 1}, {0, 0, -1}, {0, 0, LEAST}, {-1, -1, 0},
            {0, 0, 4}, {1, 0, 3}, {2, 0, 2}, {3, 0, 1}, {0, 3, 3}, {0, 4, 2}, {0, 5, 1}, {MOST, 0, 1}, {0, MOST, 1},
            {0, 0, MOST}, {1, 0, MOST}, {0, 1, MOST}, {MOST, 0, MOST}, {0, MOST, MOST}, {MOST, MOST, MOST}, {4, 0, 0}, {0, 6, 0}};
        for (int[] numbers : beyond) {
            String what = "paste(0, " + numbers[0] + ", 1, " + numbers[1] + ", " + numbers[2] + ")";
            FULL.stay(what, x -> x.paste(0, numbers[0], 1, numbers[1], numbers[2]), -7);
        }
        int[][] within = {{0, 1, 5}, {1, 0, 5}, {0, 0, 6}, {5, 0, 1}, {0, 5, 1}, {-1, 0, 1}, {0, -1, 1}, {0, 0, -1}};
        for (int[] numbers : within) {
            String what = "paste(1, " + numbers[0] + ", 1, " + numbers[1] + ", " + numbers[2] + ")";
            FULL.stay(what, x -> x.paste(1, numbers[0], 1, numbers[1], numbers[2]), -7);
        }
        FULL.stay("paste of none", x -> x.paste(0, 3, 1, 5, 0), 0);
        FULL.stay("paste onto itself", x -> x.paste(1, 0, 1, 0, 5), 0);
    }

    /** Promise 1: what calls answer of a new object, and that they make nothing. */
    private static void nothingThereYet() {
        NEW.stay("end(0)", x -> x.end(0), 0);
        NEW.stay("end(1)", x -> x.end(1), -1);
        NEW.stay("fault(0)", x -> x.fault(0), 0);
        NEW.stay("fault(1)", x -> x.fault(1), -1);
        NEW.stay("letter(0)", x -> x.letter(0), -1);
        NEW.stay("sort(0, 0)", x -> x.sort(0, 0), -1);
        NEW.stay("odds(0, 1)", x -> x.odds(0, 1), -6);
        for (int c = 0; c < 4; c++) {
            int cloth = c;
            clothNotThere(NEW, c);
            NEW.stay("knit(" + c + ", 0)", x -> x.knit(cloth, 0), -6);
            NEW.stay("put(" + c + ", 0)", x -> x.put(cloth, 0), -6);
            NEW.stay("turn(" + c + ", 0, 0)", x -> x.turn(cloth, 0, 0), -2);
        }
        for (int k = 0; k < 6; k++) {
            dueOfWay(NEW, k, -6);
        }
        for (int k = 0; k < 3; k++) {
            int image = k;
            NEW.stay("back(" + k + ")", x -> x.back(image), -6);
        }
        for (int slot = 0; slot < 4; slot++) {
            int s = slot;
            NEW.stay("write(" + slot + ", 0, 0)", x -> x.write(s, 0, 0), -6);
            NEW.stay("paste(" + slot + ")", x -> x.paste(s, 0, s, 0, 0), -6);
            NEW.stay("lay(" + slot + ", 0)", x -> x.lay(s, 0), -6);
        }
        for (int what = 0; what <= 9; what++) {
            int counted = what;
            NEW.stay("count(" + what + ")", x -> x.count(counted), 0);
        }
    }

    /** Calls that answer a question leave all as it was. */
    private static void onlyAsked() {
        FULL.stay("end of all", x -> x.end(11), 11);
        FULL.stay("fault(0)", x -> x.fault(0), 2);
        FULL.stay("fault(1)", x -> x.fault(1), 7);
        FULL.stay("letter(0)", x -> x.letter(0), 'a');
        FULL.stay("bit(0, 0, 14)", x -> x.bit(0, 0, 14), Twins.full().bit(0, 0, 14));
        FULL.stay("dim(1, 0)", x -> x.dim(1, 0), 5);
        FULL.stay("says(0)", x -> x.says(0), 1);
        FULL.stay("says(1)", x -> x.says(1), 0);
        FULL.stay("at(1, 2, 3)", x -> x.at(1, 2, 3), 4);
        FULL.stay("sort(2, 3)", x -> x.sort(2, 3), 3);
        FULL.stay("place(0, 14)", x -> x.place(0, 14), 205);
        FULL.stay("room(0)", x -> x.room(0), 15);
        FULL.stay("most(0)", x -> x.most(0), 2);
        FULL.stay("counts(1, 6)", x -> x.counts(1, 6), 6);
        FULL.stay("stops(0)", x -> x.stops(0), Twins.full().stops(0));
        FULL.stay("odds(2000000000, 50)", x -> x.odds(2_000_000_000, 50), Twins.full().odds(2_000_000_000, 50));
        FULL.stay("carries(0, 0, 50)", x -> x.carries(0, 0, 50), Twins.full().carries(0, 0, 50));
        for (int c : new int[] {0, 1, 3}) {
            FULL.stay("best(" + c + ")", x -> x.best(c), Twins.full().best(c));
            FULL.stay("mend(" + c + ")", x -> x.mend(c), Twins.full().mend(c));
            FULL.stay("ball(" + c + ", 0)", x -> x.ball(c, 0), Twins.full().ball(c, 0));
            FULL.stay("copy into itself", x -> x.copy(c, c), 0);
        }
        FULL.stay("alike(0, 0)", x -> x.alike(0, 0), 15);
        FULL.stay("same(0, 0, 0)", x -> x.same(0, 0, 0), 15);
        FULL.stay("rewind(0, 0) without losses", x -> x.rewind(0, 0), 0);
        FULL.stay("count(7)", x -> x.count(7), 11);
    }
}
