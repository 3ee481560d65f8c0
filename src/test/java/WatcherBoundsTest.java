/** Terms IV and promises 22 to 27, 34: every bound that a sentence on the WATCHER and LOSSES names, on both of its sides. */
public final class WatcherBoundsTest {
    private static final Check CHECK = new Check("WatcherBoundsTest");
    private static final int[] BESIDE_FOUR = {Integer.MIN_VALUE, -1, 4, Integer.MAX_VALUE};

    // 512 times 625 times 625 times 5 is 1,000,000,000.
    private static final String MILLIARD = "512 times 625 times 625 times 5";

    public static void main(String[] args) {
        stitchesCounted();
        runs();
        mostAndLeast();
        lostAndFree();
        countsByNumber();
        signsOfTests();
        beyondTheMilliard();
        longSums();
        linesThatStop();
        odds();
        carriesByRoom();
        carriesByDoubt();
        carriesOneByOne();
        bestOfSix();
        bestByFewest();
        bestByRoom();
        bestBehindLosses();
        bestOfOtherWords();
        lossesOfRowsAndColumns();
        lossesByMoths();
        lostAheadAndNow();
        washed();
        mendByNumbers();
        mendOfFewPlaces();
        mendOfManyPlaces();
        mendByRuns();
        mendBehindAnotherPattern();
        CHECK.finish();
    }

    private static StitchSays knitted(String pattern) {
        StitchSays x = new StitchSays();
        Check.pattern(x, pattern);
        x.knit(0, 0);
        return x;
    }

    private static StitchSays allNotPlain(String pattern) {
        StitchSays x = new StitchSays();
        Check.pattern(x, pattern);
        Check.hand(x, "hand f 100 h 100 m 100;");
        x.knit(0, 0);
        return x;
    }

    /** purls, holes, slips, runs, most, least, lost, free, and that the WATCHER's words count so. */
    private static void dueCounts(StitchSays x, int... due) {
        String[] names = {"purls", "holes", "slips", "runs", "most", "least", "lost", "free"};
        for (int what = 0; what < 8; what++) {
            CHECK.due(names[what] + " of " + Check.cloth(x, 0), x.counts(0, what), due[what]);
            Check.watcher(x, "stop if " + names[what] + " same " + due[what] + ";");
            CHECK.due("the WATCHER's " + names[what], x.stops(0), 0);
        }
    }

    // ---- IV: what is counted; promise 22

    private static void stitchesCounted() {
        dueCounts(knitted("wide 16 rows 16;row f;"), 0, 0, 0, 0, 0, 0, 0, 256);
        dueCounts(allNotPlain("wide 16 rows 16;row f;"), 256, 0, 0, 0, 16, 16, 0, 256);
        dueCounts(allNotPlain("wide 16 rows 16;row h;"), 0, 256, 0, 0, 16, 16, 0, 256);
        dueCounts(allNotPlain("wide 16 rows 16;row m;"), 0, 0, 256, 0, 16, 16, 0, 256);
        // Purls that are not in FREE places are none.
        dueCounts(allNotPlain("wide 16 rows 16;row p;"), 0, 0, 0, 0, 0, 0, 0, 0);
        dueCounts(allNotPlain("wide 1 rows 1;row f;"), 1, 0, 0, 0, 1, 1, 0, 1);
        dueCounts(allNotPlain("wide 1 rows 1;row k;"), 0, 0, 0, 0, 0, 0, 0, 0);
        dueCounts(allNotPlain("wide 5 rows 1;row kpfhm;"), 1, 1, 1, 0, 3, 3, 0, 3);
    }

    private static int runsOf(String pattern, String ones) {
        StitchSays x = knitted(pattern);
        Check.lay(x, 0, ones);
        return x.counts(0, 3);
    }

    private static void runs() {
        CHECK.due("no f", runsOf("wide 4 rows 1;row h;", "0101"), 0);
        CHECK.due("one f", runsOf("wide 4 rows 1;row hfmk;", "010"), 0);
        CHECK.due("two f alike", runsOf("wide 4 rows 1;row fhmf;", "1001"), 0);
        CHECK.due("two f unlike, others between", runsOf("wide 4 rows 1;row fhmf;", "1000"), 1);
        CHECK.due("from row to row", runsOf("wide 2 rows 2;row kf;row fk;", "10"), 1);
        CHECK.due("over a row without f", runsOf("wide 1 rows 3;row f;row k;", "10"), 1);
        CHECK.due("all unlike", runsOf("wide 16 rows 3;row f;", "01".repeat(24)), 47);
        CHECK.due("the last pair", runsOf("wide 16 rows 3;row f;", "0".repeat(47) + "1"), 1);
        CHECK.due("the first pair", runsOf("wide 16 rows 3;row f;", "1" + "0".repeat(47)), 1);
        // A lost one makes no pair, nor are those beside it one.
        for (int lost = 0; lost < 3; lost++) {
            StitchSays x = knitted("wide 3 rows 1;row f;");
            Check.lay(x, 0, "011");
            Check.losses(x, "lose columns " + lost + " to " + lost + ";");
            x.lose(0);
            CHECK.due("0 1 1 without " + lost, x.counts(0, 3), lost == 2 ? 1 : 0);
        }
        StitchSays x = knitted("wide 3 rows 1;row f;");
        Check.lay(x, 0, "001");
        Check.losses(x, "lose columns 1 to 1;");
        x.lose(0);
        CHECK.due("0 # 1", x.counts(0, 3), 0);
    }

    private static void mostAndLeast() {
        for (int ones = 0; ones <= 16; ones++) {
            StitchSays x = knitted("wide 16 rows 2;row f;");
            Check.lay(x, 0, "1".repeat(ones));
            CHECK.due("most of " + ones, x.counts(0, 4), ones);
            CHECK.due("least of " + ones, x.counts(0, 5), 0);
            Check.lay(x, 0, "1".repeat(16 + ones));
            CHECK.due("most of 16 and " + ones, x.counts(0, 4), 16);
            CHECK.due("least of 16 and " + ones, x.counts(0, 5), ones);
        }
        for (int rows = 1; rows <= 16; rows++) {
            // The row with the most, then the one with the least, is the last one.
            StitchSays x = knitted("wide 3 rows " + rows + ";row f;");
            for (int column = 0; column < 3; column++) {
                x.turn(0, rows - 1, column);
            }
            CHECK.due("most of " + rows + " rows", x.counts(0, 4), 3);
            CHECK.due("least of " + rows + " rows", x.counts(0, 5), rows == 1 ? 3 : 0);
            x = allNotPlain("wide 3 rows " + rows + ";row f;");
            x.turn(0, rows - 1, 1);
            CHECK.due("most of " + rows + " rows", x.counts(0, 4), rows == 1 ? 2 : 3);
            CHECK.due("least of " + rows + " rows", x.counts(0, 5), 2);
        }
        // What is lost is not counted, of what sort ever; what is not FREE neither.
        StitchSays x = allNotPlain("wide 6 rows 1;row fhmpkf;");
        CHECK.due("all", x.counts(0, 4), 4);
        Check.losses(x, "lose columns 0 to 1;");
        x.lose(0);
        CHECK.due("most without two", x.counts(0, 4), 2);
        CHECK.due("least without two", x.counts(0, 5), 2);
    }

    private static void lostAndFree() {
        for (int lost = 0; lost <= 16; lost++) {
            StitchSays x = allNotPlain("wide 16 rows 16;row fk;");
            if (lost > 0) {
                Check.losses(x, "lose rows 0 to " + (lost - 1) + ";");
            }
            CHECK.due("lose", x.lose(0), 16 * lost);
            dueCounts(x, 8 * (16 - lost), 0, 0, 0, lost == 16 ? 0 : 8, lost == 0 ? 8 : 0, 16 * lost, 128);
        }
    }

    private static void countsByNumber() {
        StitchSays x = knitted("wide 2 rows 1;row f;");
        for (int c = 0; c < 4; c++) {
            x.knit(c, 0);
            for (int what = 0; what < 8; what++) {
                CHECK.due("counts(" + c + ", " + what + ")", x.counts(c, what), what == 7 ? 2 : 0);
            }
            CHECK.due("counts(" + c + ", -1)", x.counts(c, -1), -2);
            CHECK.due("counts(" + c + ", 8)", x.counts(c, 8), -2);
        }
        for (int c : BESIDE_FOUR) {
            for (int what = -1; what <= 8; what++) {
                CHECK.due("counts(" + c + ", " + what + ")", x.counts(c, what), -2);
            }
        }
    }

    // ---- IV: TESTS and LINES; promise 23

    /** Which LINE stops a CLOTH with four purls of ten. */
    private static int stops(String watcher) {
        StitchSays x = knitted("wide 10 rows 1;row f;");
        Check.lay(x, 0, "1110000001");
        CHECK.due("the text of " + watcher, Math.min(0, Check.watcher(x, watcher)), 0);
        return x.stops(0);
    }

    private static void dueStop(String test, boolean holds) {
        CHECK.due(test, stops("stop if " + test + ";"), holds ? 0 : -1);
    }

    private static void signsOfTests() {
        for (int n = 0; n <= 8; n++) {
            dueStop("purls more " + n, 4 > n);
            dueStop("purls less " + n, 4 < n);
            dueStop("purls same " + n, 4 == n);
            dueStop(n + " more purls", n > 4);
            dueStop(n + " less purls", n < 4);
            dueStop(n + " same purls", n == 4);
            dueStop("0 minus " + n + " more 0 minus 4", n < 4);
            dueStop("0 minus " + n + " less 0 minus 4", n > 4);
            dueStop("0 minus " + n + " same 0 minus purls", n == 4);
        }
        dueStop("0 same 0", true);
        dueStop("999 more 998", true);
        dueStop("998 more 999", false);
    }

    /** "beyond 1,000,000,000 either way": the number itself is not beyond. */
    private static void beyondTheMilliard() {
        dueStop(MILLIARD + " more 0", true);
        dueStop(MILLIARD + " same " + MILLIARD, true);
        dueStop("0 less " + MILLIARD, true);
        dueStop(MILLIARD + " plus 0 more 0", true);
        dueStop(MILLIARD + " plus 1 more 0", false);
        dueStop("1 plus " + MILLIARD + " more 0", false);
        dueStop("0 less " + MILLIARD + " plus 1", false);
        dueStop(MILLIARD + " plus 1 minus 1 more 0", false);
        dueStop(MILLIARD + " minus 1 plus 1 more 0", true);
        dueStop("0 minus " + MILLIARD + " less 0", true);
        dueStop("0 minus " + MILLIARD + " minus 0 less 0", true);
        dueStop("0 minus " + MILLIARD + " minus 1 less 0", false);
        dueStop("0 minus " + MILLIARD + " minus 1 plus 1 less 0", false);
        dueStop("0 minus " + MILLIARD + " plus 1 minus 1 less 0", true);
        dueStop("0 more 0 minus " + MILLIARD, true);
        dueStop("0 more 0 minus " + MILLIARD + " minus 1", false);
        dueStop(MILLIARD + " minus " + MILLIARD + " same 0", true);
        dueStop(MILLIARD + " minus " + MILLIARD + " minus " + MILLIARD + " less 0", true);
        dueStop(MILLIARD + " times 1 more 0", true);
        dueStop(MILLIARD + " times 0 same 0", true);
        // A product beyond is a number on the way, though the sum would not be beyond, nor its end.
        dueStop(MILLIARD + " times 2 more 0", false);
        dueStop(MILLIARD + " times 2 minus " + MILLIARD + " more 0", false);
        dueStop("0 minus " + MILLIARD + " plus " + MILLIARD + " times 2 more 0", false);
        dueStop(MILLIARD + " times 2 times 0 same 0", false);
        dueStop("0 times " + MILLIARD + " times 2 same 0", true);
        dueStop("999 times 999 times 999 times 999 more 0", false);
        dueStop("0 same 999 times 999 times 999 times 999", false);
        dueStop("0 less 999 times 999 times 999 times 999", false);
        // All TESTS of a LINE must hold, other LINES are not touched by it.
        CHECK.due("one TEST beyond", stops("stop if 1 same 1 and " + MILLIARD + " plus 1 more 0;stop if 1 same 1;"), 1);
        CHECK.due("the first TEST beyond", stops("stop if " + MILLIARD + " plus 1 more 0 and 1 same 1;stop if 1 same 1;"), 1);
    }

    /** As long as a TAPE can be: numbers far beyond what a long has come to no answer but "does not hold". */
    private static void longSums() {
        dueStop("999" + " times 999".repeat(57) + " more 0", false);
        dueStop("999" + " times 999".repeat(57) + " less 0", false);
        dueStop("999" + " times 999".repeat(57) + " same 0", false);
        dueStop("0" + " times 999".repeat(57) + " same 0", true);
        dueStop("1" + " times 1".repeat(70) + " same 1", true);
        dueStop("512" + " times 512".repeat(56) + " same 0", false);
        dueStop("1" + "plus 1".repeat(90) + " same 91", true);
        dueStop("0" + "minus 1".repeat(78) + " plus 78 same 0", true);
        CHECK.due("TESTS without number", stops("stop if0same0" + "and0same0".repeat(64) + ";"), 0);
        CHECK.due("and the last does not hold", stops("stop if0same0" + "and0same0".repeat(64) + "and0same1;"), -1);
    }

    private static void linesThatStop() {
        CHECK.due("no WATCHER", knitted("wide 2 rows 1;row f;").stops(0), -1);
        CHECK.due("a WATCHER of no LINES", stops(""), -1);
        for (int n = 0; n < 12; n++) {
            String none = "stop if 1 same 2;";
            CHECK.due("LINE " + n, stops(none.repeat(n) + "stop if 2 same 2;" + none.repeat(11 - n)), n);
            CHECK.due("LINE " + n + ", the first of several", stops(none.repeat(n) + "stop if 2 same 2;".repeat(12 - n)), n);
        }
        CHECK.due("none of 12", stops("stop if 1 same 2;".repeat(12)), -1);
        for (int wrong = 0; wrong < 4; wrong++) {
            StringBuilder line = new StringBuilder("stop if ");
            for (int n = 0; n < 4; n++) {
                line.append(n == 0 ? "" : " and ").append(n == wrong ? "1 same 2" : "2 same 2");
            }
            CHECK.due("TEST " + wrong + " does not hold", stops(line + ";"), -1);
        }
        CHECK.due("all four hold", stops("stop if 2 same 2 and 2 same 2 and 2 same 2 and 2 same 2;"), 0);
    }

    // ---- promises 24, 25

    private static void odds() {
        StitchSays x = new StitchSays();
        CHECK.due("no PATTERN", x.odds(0, 1), -6);
        Check.pattern(x, "wide 10 rows 1;row f;");
        Check.hand(x, "hand f 50 h 0 m 0;");
        int[] seeds = {0, 1, 1_999_999_950, 1_999_999_951, 2_000_000_000};
        for (int seed : seeds) {
            for (int n = 1; n <= 50; n += 7) {
                Check.watcher(x, "stop if 1 same 1;");
                CHECK.due("all of " + n, x.odds(seed, n), n);
                Check.watcher(x, "stop if 1 same 2;");
                CHECK.due("none of " + n, x.odds(seed, n), 0);
            }
            // As CLOTHS that are knitted one by one, as long as there are such seeds.
            Check.watcher(x, "stop if purls less 5;");
            int n = Math.min(50, 2_000_000_000 - seed + 1);
            int due = 0;
            for (int i = 0; i < n; i++) {
                due += x.knit(0, seed + i) < 5 ? 1 : 0;
            }
            CHECK.due("odds(" + seed + ", " + n + ")", x.odds(seed, n), due);
        }
        int[] refused = {Integer.MIN_VALUE, -1, 0, 51, Integer.MAX_VALUE};
        for (int n : refused) {
            CHECK.due("odds(0, " + n + ")", x.odds(0, n), -2);
            CHECK.due("odds(0, " + n + ") without a PATTERN", new StitchSays().odds(0, n), -2);
        }
        CHECK.due("odds(-1, 1)", x.odds(-1, 1), -2);
        CHECK.due("odds(2000000001, 1)", x.odds(2_000_000_001, 1), -2);
        // FREE places are none: all CLOTHS are one.
        Check.pattern(x, "wide 1 rows 1;row k;");
        Check.watcher(x, "stop if free same 0;");
        CHECK.due("no FREE places", x.odds(7, 50), 50);
    }

    /** WORDS that were read, a PATTERN of so many f behind it. */
    private static StitchSays reader(String words, int wide) {
        StitchSays x = knitted("wide 16 rows 16;row f;");
        Check.way(x, 0, "way over f;");
        Check.put(x, 0, 0, words);
        x.read(0, 0);
        Check.pattern(x, "wide " + wide + " rows 1;row f;");
        return x;
    }

    private static void carriesByRoom() {
        for (int letters = 1; letters <= 2; letters++) {
            for (int wide = 1; wide <= 16; wide++) {
                StitchSays x = reader("b".repeat(letters), wide);
                Check.watcher(x, "stop if purls same " + (letters + 5) + ";");
                boolean room = 5 * (letters + 1) <= wide;
                CHECK.due(letters + " LETTERS, room " + wide, x.carries(0, 0, 1), room ? 1 : -3);
                CHECK.due("of 50", x.carries(0, 2_000_000_000, 50), room ? 50 : -3);
                CHECK.due("no CLOTH is made", x.count(6), 0);
            }
        }
        StitchSays x = reader("b".repeat(50), 16);
        Check.pattern(x, "wide 16 rows 16;row f;");
        CHECK.due("50 LETTERS", x.carries(0, 0, 50), 0);
        Check.pattern(x, "wide 15 rows 16;row f;");
        CHECK.due("50 LETTERS into 240", x.carries(0, 0, 50), -3);
        Check.pattern(x, "wide 16 rows 16;row h;");
        CHECK.due("a WAY without PLACES", x.carries(0, 0, 50), -3);
    }

    private static void carriesByDoubt() {
        StitchSays x = new StitchSays();
        CHECK.due("no PATTERN", x.carries(0, 0, 1), -6);
        Check.pattern(x, "wide 15 rows 1;row f;");
        for (int k = 0; k < 6; k++) {
            CHECK.due("no WAY " + k, x.carries(k, 0, 1), -6);
            Check.way(x, k, "way over f;");
            CHECK.due("nothing was read yet", x.carries(k, 0, 1), -5);
        }
        CHECK.due("no such WAY", x.carries(6, 0, 1), -2);
        x.knit(0, 0);
        CHECK.due("it says nothing", x.read(0, 0), -1);
        CHECK.due("nothing was read yet", x.carries(0, 0, 1), -5);
        for (int lost = 0; lost < 15; lost++) {
            x.knit(0, 0);
            Check.put(x, 0, 0, "ab");
            Check.losses(x, "moth 99 from " + lost + ";");
            x.lose(0);
            boolean said = x.read(0, 0) == 2;
            CHECK.due("it says something without " + lost, said ? 1 : 0, lost < 10 ? 1 : 0);
            CHECK.due("a LETTER can't be told", x.carries(0, 0, 1), -5);
            CHECK.due("nor by best()", x.best(0), -5);
        }
        x.knit(0, 0);
        Check.put(x, 0, 0, "ab");
        x.read(0, 0);
        CHECK.due("all can be told", x.carries(0, 0, 1), 0);
    }

    /** As CLOTHS that are knitted and put into one by one, from each seed on. */
    private static void carriesOneByOne() {
        StitchSays x = reader("ox", 16);
        Check.hand(x, "hand f 50 h 0 m 0;");
        for (int seed : new int[] {0, 1, 1_999_999_990, 1_999_999_991}) {
            for (int bound = 6; bound <= 11; bound++) {
                Check.watcher(x, "stop if purls more " + bound + ";");
                int due = 0;
                for (int n = 1; n <= 10; n++) {
                    x.knit(0, seed + n - 1);
                    Check.put(x, 0, 0, "ox");
                    due += x.stops(0) == 0 ? 1 : 0;
                    CHECK.due("carries(0, " + seed + ", " + n + ") by " + bound, x.carries(0, seed, n), due);
                }
            }
        }
    }

    // ---- promise 26

    private static void bestOfSix() {
        for (int k = 0; k < 6; k++) {
            StitchSays x = reader("ab", 15);
            x.knit(0, 0);
            for (int other = 0; other < 6; other++) {
                Check.way(x, other, other == k ? "way over f;" : "way over h;");
            }
            CHECK.due("WAY " + k + " alone", x.best(0), k);
            for (int other = 5; other >= 0; other--) {
                Check.way(x, other, "way over f;");
                CHECK.due("the first of several", x.best(0), Math.min(k, other));
            }
        }
        StitchSays x = reader("ab", 15);
        x.knit(3, 0);
        CHECK.due("WAY 0", x.best(3), 0);
        Check.way(x, 0, "way over m;");
        CHECK.due("none", x.best(3), -1);
        for (int c = 0; c < 3; c++) {
            CHECK.due("no CLOTH " + c, x.best(c), -6);
        }
        for (int c : BESIDE_FOUR) {
            CHECK.due("best(" + c + ")", x.best(c), -2);
        }
    }

    /** With one place changed fewer a later WAY is the best one. */
    private static void bestByFewest() {
        StitchSays x = reader("a", 10);
        Check.pattern(x, "wide 10 rows 2;row f;");
        Check.way(x, 1, "way over f top;");
        x.knit(0, 0);
        CHECK.due("both change six", x.best(0), 0);
        x.turn(0, 1, 4);
        CHECK.due("the second changes five", x.best(0), 1);
        x.turn(0, 0, 4);
        CHECK.due("both change five", x.best(0), 0);
        x.turn(0, 0, 0);
        CHECK.due("the first changes six", x.best(0), 1);
        x.turn(0, 1, 0);
        CHECK.due("both change six", x.best(0), 0);
        Check.put(x, 0, 1, "a");
        CHECK.due("none at all is the fewest", x.best(0), 1);
        Check.put(x, 0, 0, "a");
        CHECK.due("none by both", x.best(0), 0);
    }

    private static void bestByRoom() {
        for (int wide = 1; wide <= 16; wide++) {
            StitchSays x = reader("aa", wide);
            x.knit(0, 0);
            CHECK.due("two LETTERS into " + wide, x.best(0), wide >= 15 ? 0 : -1);
        }
        StitchSays x = reader("a".repeat(50), 16);
        Check.pattern(x, "wide 16 rows 16;row f;");
        x.knit(0, 0);
        CHECK.due("50 LETTERS", x.best(0), 0);
        x = new StitchSays();
        Check.pattern(x, "wide 10 rows 1;row f;");
        x.knit(0, 0);
        CHECK.due("nothing was read yet", x.best(0), -5);
    }

    private static void bestBehindLosses() {
        // One place lost: of the WORDS and their end no BIT may be missing, behind them it may.
        for (int lost = 0; lost < 16; lost++) {
            StitchSays x = reader("ab", 16);
            x.knit(0, 0);
            Check.losses(x, "moth 99 from " + lost + ";");
            CHECK.due("without " + lost, x.best(0), lost < 15 ? -1 : 0);
            CHECK.due("nothing is lost yet", x.counts(0, 6), 0);
            // With a guard of three each BIT stands three times.
            Check.pattern(x, "wide 15 rows 3;row f;");
            Check.way(x, 0, "way over f guard 3;");
            x.knit(0, 0);
            CHECK.due("by a guard without " + lost, x.best(0), 0);
            Check.losses(x, "moth 99 from " + lost + ";moth 99 from " + (lost + 1) + ";moth 99 from " + (lost + 2) + ";");
            CHECK.due("by a guard without three from " + lost, x.best(0), lost % 3 == 0 ? -1 : 0);
        }
        // What the CLOTH lost ahead: what is put can't be told there.
        StitchSays x = reader("ab", 16);
        x.knit(0, 0);
        Check.losses(x, "moth 99 from 3;");
        x.lose(0);
        Check.losses(x, "");
        CHECK.due("lost ahead", x.best(0), -1);
        // The WATCHER looks ahead of the LOSSES, behind the WORDS.
        x = reader("ab", 16);
        x.knit(0, 0);
        Check.losses(x, "moth 99 from 15;");
        Check.watcher(x, "stop if lost more 0;");
        CHECK.due("ahead of the LOSSES", x.best(0), 0);
        Check.watcher(x, "stop if purls same 0;");
        CHECK.due("behind the WORDS", x.best(0), 0);
        Check.watcher(x, "stop if purls same 7;");
        CHECK.due("seven purls", x.best(0), -1);
        Check.watcher(x, "stop if purls same 6;");
        CHECK.due("not six", x.best(0), 0);
        Check.watcher(x, "stop if purls same 8;");
        CHECK.due("not eight", x.best(0), 0);
    }

    /** Read again behind LOSSES they are other words, or fewer: that is not "read again". */
    private static void bestOfOtherWords() {
        StitchSays x = reader("a ", 16);
        Check.pattern(x, "wide 10 rows 3;row f;row hf;row f;");
        Check.hand(x, "hand f 0 h 100 m 0;");
        Check.way(x, 0, "way over fh group 2;");
        x.knit(0, 0);
        CHECK.due("without LOSSES", x.best(0), 0);
        // Holes that are plain turn the blank's five into 31: a alone is left.
        Check.losses(x, "wash;");
        CHECK.due("fewer LETTERS", x.best(0), -1);
        x.copy(0, 1);
        Check.put(x, 1, 0, "a ");
        x.lose(1);
        CHECK.due("what would be read", x.read(1, 0), 1);
        CHECK.dueText("what would be read", Check.letters(x), "a");
    }

    // ---- LOSSES; promise 27

    private static void lossesOfRowsAndColumns() {
        for (int side = 1; side <= 16; side++) {
            for (int first = 0; first < 16; first++) {
                for (int second = first; second < 16; second += second == first ? 1 : 3) {
                    StitchSays x = knitted("wide 2 rows " + side + ";row fk;");
                    Check.losses(x, "lose rows " + first + " to " + second + ";");
                    int there = Math.max(0, Math.min(second, side - 1) - first + 1);
                    CHECK.due("rows " + first + " to " + second + " of " + side, x.lose(0), 2 * there);
                    CHECK.due("the first", x.at(0, first, 0), first < side ? 4 : -1);
                    CHECK.due("ahead of it", x.at(0, first - 1, 1), first > 0 && first - 1 < side ? 0 : -1);
                    CHECK.due("behind it", x.at(0, second + 1, 0), second + 1 < side ? 0 : -1);
                    x = knitted("wide " + side + " rows 2;row fk;");
                    Check.losses(x, "lose columns " + first + " to " + second + ";");
                    CHECK.due("columns " + first + " to " + second + " of " + side, x.lose(0), 2 * there);
                    CHECK.due("the last", x.at(0, 1, second), second < side ? 4 : -1);
                    CHECK.due("ahead of it", x.at(0, 0, first - 1), first > 0 && first - 1 < side ? 0 : -1);
                    CHECK.due("behind it", x.at(0, 1, second + 1), second + 1 < side ? 0 : -1);
                }
            }
        }
    }

    private static void lossesByMoths() {
        int[] sides = {1, 7, 15, 16};
        int[] steps = {1, 2, 15, 16, 17, 98, 99};
        int[] froms = {0, 1, 15, 16, 224, 225, 239, 240, 254, 255};
        for (int side : sides) {
            for (int step : steps) {
                for (int from : froms) {
                    StitchSays x = knitted("wide " + side + " rows " + side + ";row fkp;");
                    Check.losses(x, "moth " + step + " from " + from + ";");
                    int due = 0;
                    for (int place = from; place < side * side; place += step) {
                        due++;
                    }
                    String what = "moth " + step + " from " + from + " of " + side * side;
                    CHECK.due(what, x.lose(0), due);
                    CHECK.due("its first", x.at(0, from / side, from % side), from < side * side ? 4 : -1);
                    CHECK.due("once more", x.lose(0), due);
                }
            }
        }
    }

    /** All that is lost in it then, what was lost ahead too. */
    private static void lostAheadAndNow() {
        StitchSays x = knitted("wide 4 rows 2;row fk;");
        Check.losses(x, "lose columns 0 to 0;");
        CHECK.due("two", x.lose(0), 2);
        Check.losses(x, "lose columns 1 to 1;");
        CHECK.due("two more", x.lose(0), 4);
        Check.losses(x, "lose rows 0 to 0;");
        CHECK.due("two of four are lost already", x.lose(0), 6);
        Check.losses(x, "");
        CHECK.due("no LOSSES", x.lose(0), 6);
        Check.losses(x, "moth 1 from 0;");
        CHECK.due("all", x.lose(0), 8);
    }

    private static void washed() {
        StitchSays x = allNotPlain("wide 16 rows 16;row h;");
        CHECK.due("no LOSSES", x.lose(0), 0);
        CHECK.due("holes", x.counts(0, 1), 256);
        Check.losses(x, "wash;");
        CHECK.due("wash", x.lose(0), 0);
        CHECK.due("no holes", x.counts(0, 1), 0);
        x = allNotPlain("wide 5 rows 1;row kpfhm;");
        Check.losses(x, "wash;".repeat(12));
        CHECK.due("wash", x.lose(0), 0);
        CHECK.dueText("holes alone", Check.cloth(x, 0), ".pp.s");
        x = allNotPlain("wide 5 rows 1;row h;");
        Check.losses(x, "moth 2 from 0;wash;lose columns 1 to 1;");
        CHECK.due("LINE by LINE", x.lose(0), 4);
        CHECK.dueText("what is lost stays so", Check.cloth(x, 0), "###.#");
        // Twelve LINES, each of which takes a place.
        x = knitted("wide 16 rows 1;row f;");
        StringBuilder losses = new StringBuilder();
        for (int i = 0; i < 12; i++) {
            losses.append("lose columns ").append(i).append(" to ").append(i).append(";");
        }
        Check.losses(x, losses.toString());
        CHECK.due("twelve LINES", x.lose(0), 12);
        CHECK.dueText("the first twelve", Check.cloth(x, 0), "############....");
    }

    // ---- promise 34

    private static void mendByNumbers() {
        for (int purls = 0; purls <= 8; purls++) {
            StitchSays x = knitted("wide 8 rows 1;row f;");
            Check.lay(x, 0, "1".repeat(purls));
            for (int bound = 0; bound <= 8; bound++) {
                int over = Math.max(0, purls - bound);
                Check.watcher(x, "stop if purls more " + bound + ";");
                CHECK.due(purls + " more than " + bound, x.mend(0), over <= 2 ? over : -1);
                int under = Math.max(0, bound - purls);
                Check.watcher(x, "stop if purls less " + bound + ";");
                CHECK.due(purls + " less than " + bound, x.mend(0), under <= 2 ? under : -1);
                CHECK.due("the CLOTH stays", x.counts(0, 0), purls);
            }
        }
        StitchSays x = knitted("wide 8 rows 1;row f;");
        CHECK.due("no WATCHER", x.mend(0), 0);
        for (int c = 1; c < 4; c++) {
            CHECK.due("no CLOTH " + c, x.mend(c), -6);
        }
        for (int c : BESIDE_FOUR) {
            CHECK.due("mend(" + c + ")", x.mend(c), -2);
        }
        // One and two are both enough: the least; two, but not one.
        Check.watcher(x, "stop if purls same 0;");
        CHECK.due("one is enough", x.mend(0), 1);
        Check.watcher(x, "stop if purls same 0;stop if purls same 1;");
        CHECK.due("two, but not one", x.mend(0), 2);
        Check.watcher(x, "stop if purls same 0;stop if purls same 1;stop if purls same 2;");
        CHECK.due("three", x.mend(0), -1);
    }

    private static void mendOfFewPlaces() {
        StitchSays x = knitted("wide 2 rows 1;row kp;");
        Check.watcher(x, "stop if 1 same 1;");
        CHECK.due("no FREE places", x.mend(0), -1);
        Check.watcher(x, "stop if 1 same 2;");
        CHECK.due("no FREE places, none stops", x.mend(0), 0);
        x = knitted("wide 1 rows 1;row f;");
        Check.watcher(x, "stop if purls less 1;");
        CHECK.due("one FREE place", x.mend(0), 1);
        Check.watcher(x, "stop if purls less 2;");
        CHECK.due("one FREE place can't be turned for two", x.mend(0), -1);
        // Turned over twice is not two places.
        x.turn(0, 0, 0);
        Check.watcher(x, "stop if purls same 0;stop if purls same 1;");
        CHECK.due("one place is never both", x.mend(0), -1);
        x = knitted("wide 2 rows 1;row f;");
        Check.watcher(x, "stop if purls less 2;");
        CHECK.due("both", x.mend(0), 2);
        Check.losses(x, "lose columns 0 to 1;");
        x.lose(0);
        CHECK.due("both are lost", x.mend(0), -1);
        Check.watcher(x, "stop if lost less 2;");
        CHECK.due("and none stops that", x.mend(0), 0);
    }

    /** Two places alone are left of 256: the first ones, the last ones, the first and the last. */
    private static void mendOfManyPlaces() {
        String[] losses = {"lose rows 1 to 15;lose columns 2 to 15;", "lose rows 0 to 14;lose columns 0 to 13;",
            "lose rows 1 to 14;lose columns 1 to 14;moth 99 from 15;moth 99 from 240;"};
        for (String loss : losses) {
            StitchSays x = knitted("wide 16 rows 16;row f;");
            Check.losses(x, loss);
            CHECK.due("all but two", x.lose(0), 254);
            Check.watcher(x, "stop if purls less 1;");
            CHECK.due("one of the two", x.mend(0), 1);
            Check.watcher(x, "stop if purls less 2;");
            CHECK.due("both of the two", x.mend(0), 2);
            Check.watcher(x, "stop if purls less 3;");
            CHECK.due("there is no third", x.mend(0), -1);
        }
        StitchSays x = knitted("wide 16 rows 16;row f;");
        Check.watcher(x, "stop if purls less 2;stop if runs more 1;");
        CHECK.due("the two at an end", x.mend(0), 2);
        Check.watcher(x, "stop if purls less 2;stop if runs less 4;stop if most less 2;");
        CHECK.due("two of a row apart", x.mend(0), 2);
        Check.watcher(x, "stop if purls less 3;");
        CHECK.due("three of 256", x.mend(0), -1);
    }

    private static int runsIn(String signs) {
        int runs = 0;
        for (int i = 1; i < signs.length(); i++) {
            String pair = signs.substring(i - 1, i + 1);
            runs += pair.equals("01") || pair.equals("10") ? 1 : 0;
        }
        return runs;
    }

    private static String turned(String signs, int place) {
        char sign = signs.charAt(place);
        return sign == '#' ? null : signs.substring(0, place) + (sign == '0' ? '1' : '0') + signs.substring(place + 1);
    }

    /** The least number of turns that brings runs from first to last. */
    private static int turnsFor(String signs, int first, int last) {
        int least = 3;
        for (int i = 0; i < signs.length(); i++) {
            for (int j = i; j < signs.length(); j++) {
                String one = turned(signs, i);
                String two = one == null || i == j ? one : turned(one, j);
                if (two != null && runsIn(two) >= first && runsIn(two) <= last) {
                    least = Math.min(least, i == j ? 1 : 2);
                }
            }
        }
        return runsIn(signs) >= first && runsIn(signs) <= last ? 0 : least == 3 ? -1 : least;
    }

    /** All CLOTHS of five f, some lost, and all bounds of runs: by trying. */
    private static void mendByRuns() {
        for (int n = 0; n < 243; n++) {
            StringBuilder text = new StringBuilder();
            StringBuilder losses = new StringBuilder();
            for (int i = 0, rest = n; i < 5; i++, rest /= 3) {
                text.append("01#".charAt(rest % 3));
                losses.append(rest % 3 == 2 ? "moth 99 from " + (2 * i) + ";" : "");
            }
            String signs = text.toString();
            StitchSays x = knitted("wide 9 rows 1;row fh;");
            for (int i = 0; i < 5; i++) {
                if (signs.charAt(i) == '1') {
                    x.turn(0, 0, 2 * i);
                }
            }
            Check.losses(x, losses.toString());
            x.lose(0);
            for (int first = 0; first <= 4; first++) {
                int last = first + (n % 2);
                Check.watcher(x, "stop if runs less " + first + ";stop if runs more " + last + ";");
                CHECK.due(signs + " to runs " + first + " .. " + last, x.mend(0), turnsFor(signs, first, last));
            }
            CHECK.due("runs stay", x.counts(0, 3), runsIn(signs));
        }
    }

    private static void mendBehindAnotherPattern() {
        StitchSays x = knitted("wide 3 rows 1;row f;");
        Check.watcher(x, "stop if runs less 1;");
        CHECK.due("three f", x.mend(0), 1);
        for (String signs : new String[] {"h", "fhh", "hfh", "mmf", "kfk"}) {
            Check.pattern(x, "wide 3 rows 1;row " + signs + ";");
            x.knit(0, 0);
            CHECK.due("one f, or none", x.mend(0), -1);
            Check.pattern(x, "wide 3 rows 1;row f;");
            x.knit(0, 0);
            CHECK.due("three f again", x.mend(0), 1);
        }
    }
}
