/** Promises 22 to 25 and 34: counts, stops, odds, carries, mend. */
public final class WatcherTest {
    private static final Check CHECK = new Check("WatcherTest");

    public static void main(String[] args) {
        counts();
        runsAndRows();
        tests();
        numbersOnTheWay();
        lines();
        odds();
        carries();
        mend();
        mendWithLosses();
        wrongNumbers();
        CHECK.finish();
    }

    private static void dueCounts(StitchSays x, int c, int... due) {
        String[] names = {"purls", "holes", "slips", "runs", "most", "least", "lost", "free"};
        for (int what = 0; what < due.length; what++) {
            CHECK.due("counts of " + names[what] + " in " + Check.cloth(x, c), x.counts(c, what), due[what]);
            // The WATCHER's word counts the same.
            Check.watcher(x, "stop if " + names[what] + " same " + due[what] + ";");
            CHECK.due("stop if " + names[what], x.stops(c), 0);
        }
    }

    private static void counts() {
        StitchSays x = new StitchSays();
        CHECK.due("FREE", Check.pattern(x, "wide 4 rows 3;row fhmp;row fkff;"), 9);
        x.knit(0, 0);
        dueCounts(x, 0, 0, 0, 0, 0, 0, 0, 0, 9);
        Check.lay(x, 0, "111010000");
        CHECK.dueText("laid", Check.cloth(x, 0), "posp/..p./...p");
        dueCounts(x, 0, 2, 1, 1, 3, 3, 0, 0, 9);
        Check.lay(x, 0, "111011011");
        CHECK.dueText("laid", Check.cloth(x, 0), "posp/..pp/.osp");
        dueCounts(x, 0, 3, 2, 2, 3, 3, 2, 0, 9);
        Check.losses(x, "lose columns 3 to 3;");
        x.lose(0);
        // The f of row 1 between the one that is not plain and the one of row 2 is lost.
        dueCounts(x, 0, 2, 2, 2, 2, 3, 1, 3, 9);
        Check.losses(x, "lose rows 1 to 1;");
        x.lose(0);
        dueCounts(x, 0, 1, 2, 2, 0, 3, 0, 6, 9);
    }

    private static void runsAndRows() {
        StitchSays x = new StitchSays();
        Check.pattern(x, "wide 6 rows 3;row fkfhfm;row k;row f;");
        x.knit(0, 0);
        // f: . p . / p p . . p . with others between them, and from row to row.
        Check.lay(x, 0, "01101" + "110010");
        CHECK.dueText("laid", Check.cloth(x, 0), "..po.s/....../pp..p.");
        // A row without FREE places has none that are not plain.
        dueCounts(x, 0, 4, 1, 1, 6, 3, 0, 0, 11);
        Check.pattern(x, "wide 3 rows 2;row p;");
        x.knit(0, 0);
        dueCounts(x, 0, 0, 0, 0, 0, 0, 0, 0, 0);
    }

    private static void stops(String watcher, int due) {
        StitchSays x = new StitchSays();
        Check.pattern(x, "wide 10 rows 1;row f;");
        x.knit(0, 0);
        Check.lay(x, 0, "1110000001");
        CHECK.due("lines of " + watcher, Check.watcher(x, watcher) >= 0 ? 1 : 0, 1);
        CHECK.due(watcher, x.stops(0), due);
    }

    private static void tests() {
        stops("stop if purls more 3;", 0);
        stops("stop if purls more 4;", -1);
        stops("stop if purls less 5;", 0);
        stops("stop if purls less 4;", -1);
        stops("stop if purls same 4;", 0);
        stops("stop if purls same 5;", -1);
        stops("stop if 3 more purls;", -1);
        stops("stop if 1 plus 2 times 3 same 7;", 0);
        stops("stop if 2 times 3 plus 1 same 7;", 0);
        stops("stop if 10 minus 3 minus 2 same 5;", 0);
        stops("stop if 10 minus 3 plus 2 same 9;", 0);
        stops("stop if 10 minus 2 times 3 same 4;", 0);
        stops("stop if 3 minus 5 less 0;", 0);
        stops("stop if 0 same 5 minus 3 minus 2;", 0);
        stops("stop if purls times purls plus runs same 18;", 0);
        stops("stop if free minus purls same 6;", 0);
        stops("stop if 7 times 0 plus 7 same 7;", 0);
    }

    private static void numbersOnTheWay() {
        String big = "999 times 999 times 999";
        stops("stop if " + big + " more 0;", 0);
        // 997002999 and 2994003 and 2997 are 999999999.
        String sum = big + " plus 999 times 999 times 3 plus 999 times 3";
        stops("stop if " + sum + " more 0;", 0);
        stops("stop if " + sum + " plus 1 more 0;", 0);
        stops("stop if " + sum + " plus 2 more 0;", -1);
        stops("stop if " + sum + " plus 2 minus 2 more 0;", -1);
        stops("stop if " + sum + " minus 2 plus 2 more 0;", 0);
        stops("stop if 0 less " + sum + " plus 2;", -1);
        String negative = "0 minus " + big + " minus 999 times 999 times 3 minus 999 times 3";
        stops("stop if " + negative + " minus 1 less 0;", 0);
        stops("stop if " + negative + " minus 2 less 0;", -1);
        stops("stop if " + negative + " minus 2 plus 3 less 0;", -1);
        stops("stop if " + big + " times 2 times 0 same 0;", -1);
        stops("stop if 0 times " + big + " times 2 same 0;", 0);
        stops("stop if 0 plus " + big + " times 2 more 0;", -1);
        stops("stop if 0 minus " + big + " times 2 less 0;", -1);
        stops("stop if 1 same 1 plus " + big + " times 999 times 999 times 999 times 999 times 999 times 0;", -1);
        stops("stop if " + big + " times 2 more 0 and 1 same 1;stop if 1 same 1;", 1);
    }

    private static void lines() {
        stops("", -1);
        stops("stop if 1 more 2;stop if 2 more 1;stop if 3 more 1;", 1);
        stops("stop if 1 more 2;stop if 2 less 1;stop if 1 same 1;", 2);
        stops("stop if 2 more 1 and 1 more 2;", -1);
        stops("stop if 1 more 2 and 2 more 1;stop if 2 more 1 and 3 more 1 and 4 more 1;", 1);
        stops("stop if 2 more 1 and 3 more 1 and 1 more 4;", -1);
        stops("stop if 1 more 2;".repeat(11) + "stop if 1 same 1;", 11);
    }

    /** How many of ten f are purls, knitted by a share of 50, as the document tells it. */
    private static int purls(long seed) {
        long x = seed;
        int purls = 0;
        for (int i = 0; i < 10; i++) {
            x = (1103515245L * x + 12345L) % 2147483648L;
            if (x / 65536L % 100L < 50L) {
                purls++;
            }
        }
        return purls;
    }

    private static void odds() {
        StitchSays x = new StitchSays();
        CHECK.due("odds without a PATTERN", x.odds(0, 1), -6);
        Check.pattern(x, "wide 10 rows 1;row f;");
        Check.hand(x, "hand f 50 h 0 m 0;");
        CHECK.due("odds without a WATCHER", x.odds(0, 50), 0);
        Check.watcher(x, "stop if purls more 5;");
        int[] seeds = {0, 1, 77, 1999999999, 2000000000};
        for (int seed : seeds) {
            int stopped = 0;
            for (int n = 1; n <= 50; n++) {
                stopped += purls((long) seed + n - 1) > 5 ? 1 : 0;
                CHECK.due("odds(" + seed + ", " + n + ")", x.odds(seed, n), stopped);
            }
        }
        CHECK.due("odds are of no CLOTH", x.count(6), 0);
    }

    private static void carries() {
        StitchSays x = new StitchSays();
        CHECK.due("nothing at all", x.carries(0, 0, 1), -6);
        Check.way(x, 0, "way over f;");
        CHECK.due("no PATTERN", x.carries(0, 0, 1), -6);
        Check.pattern(x, "wide 16 rows 2;row f;");
        CHECK.due("no WAY", x.carries(1, 0, 1), -6);
        CHECK.due("nothing was read", x.carries(0, 0, 1), -5);
        Check.way(x, 1, "way over f step 3;");
        Check.way(x, 2, "way over f step 4;");
        CHECK.due("nothing was read", x.carries(2, 0, 1), -5);
        x.knit(0, 0);
        Check.put(x, 0, 0, "a");
        x.read(0, 0);
        CHECK.due("no room", x.carries(2, 0, 1), -3);
        Check.watcher(x, "stop if purls same 6;");
        CHECK.due("a has six purls", x.carries(0, 9, 50), 50);
        CHECK.due("without there is none", x.odds(9, 50), 0);
        CHECK.due("by WAY 1 likewise", x.carries(1, 9, 1), 1);
        CHECK.due("the CLOTH stays", x.counts(0, 0), 6);
        // What is put takes the place of what was knitted, what is behind stays.
        Check.hand(x, "hand f 100 h 0 m 0;");
        Check.watcher(x, "stop if purls same 28;");
        CHECK.due("four are turned over", x.carries(0, 5, 7), 7);
        Check.watcher(x, "stop if purls more 28;");
        CHECK.due("not more", x.carries(0, 5, 7), 0);
        CHECK.due("all without words", x.odds(5, 7), 7);
        Check.losses(x, "moth 99 from 2;");
        x.lose(0);
        CHECK.due("read ?", x.read(0, 0), 1);
        CHECK.due("a LETTER can't be told", x.carries(0, 0, 1), -5);
        CHECK.due("nor is there room", x.carries(2, 0, 1), -5);
    }

    private static int mend(String ones, String watcher) {
        StitchSays x = new StitchSays();
        Check.pattern(x, "wide 6 rows 2;row f;");
        x.knit(0, 0);
        Check.lay(x, 0, ones);
        Check.watcher(x, watcher);
        String before = Check.cloth(x, 0);
        int answer = x.mend(0);
        CHECK.dueText("the CLOTH behind mend", Check.cloth(x, 0), before);
        return answer;
    }

    private static void mend() {
        CHECK.due("none stops", mend("111111", ""), 0);
        CHECK.due("two are not too many", mend("11", "stop if purls more 2;"), 0);
        CHECK.due("three", mend("111", "stop if purls more 2;"), 1);
        CHECK.due("four", mend("1111", "stop if purls more 2;"), 2);
        CHECK.due("five", mend("11111", "stop if purls more 2;"), -1);
        CHECK.due("too few", mend("0", "stop if purls less 2;"), 2);
        CHECK.due("two lines", mend("0", "stop if purls less 2;stop if runs less 3;"), 2);
        // One turned over gives 2 runs, two beside each other too, two apart 4, first and last 2.
        CHECK.due("runs", mend("0", "stop if runs less 4;"), 2);
        CHECK.due("five runs", mend("0", "stop if runs less 5;"), -1);
        CHECK.due("one run", mend("0", "stop if runs less 1;stop if runs more 1;"), 1);
        CHECK.due("an even number of purls, one run", mend("0", "stop if runs less 1;stop if runs more 1;stop if purls same 1;"), 2);
        CHECK.due("always", mend("0", "stop if 1 same 1;"), -1);
        // In each row one.
        CHECK.due("least", mend("0", "stop if least less 1;"), 2);
        CHECK.due("most", mend("111111111111", "stop if most more 5;"), 2);
        CHECK.due("least of two", mend("000000111111", "stop if least less 2;"), 2);
        CHECK.due("least of three", mend("000000111111", "stop if least less 3;"), -1);
        CHECK.due("one in each of two rows", mend("111000111000", "stop if most more 2;stop if purls less 4;"), 2);
    }

    private static void mendWithLosses() {
        StitchSays x = new StitchSays();
        Check.pattern(x, "wide 3 rows 1;row f;");
        x.knit(0, 0);
        Check.losses(x, "lose columns 0 to 1;");
        x.lose(0);
        Check.watcher(x, "stop if purls less 1;");
        CHECK.due("one is left", x.mend(0), 1);
        Check.watcher(x, "stop if purls less 2;");
        CHECK.due("what is lost is not turned over", x.mend(0), -1);
        Check.watcher(x, "stop if lost more 0;");
        CHECK.due("lost stays", x.mend(0), -1);
        // Holes and slips, and what is not FREE.
        Check.pattern(x, "wide 4 rows 1;row hmkp;");
        x.knit(0, 0);
        Check.watcher(x, "stop if holes less 1;stop if slips less 1;");
        CHECK.due("a hole, a slip", x.mend(0), 2);
        Check.watcher(x, "stop if holes plus slips less 1;");
        CHECK.due("one of them", x.mend(0), 1);
        Check.watcher(x, "stop if purls less 1;");
        CHECK.due("no purl", x.mend(0), -1);
    }

    private static void wrongNumbers() {
        StitchSays x = new StitchSays();
        Check.pattern(x, "wide 10 rows 1;row f;");
        Check.way(x, 0, "way over f;");
        x.knit(1, 0);
        CHECK.due("counts(4, 0)", x.counts(4, 0), -2);
        CHECK.due("counts(-1, 0)", x.counts(-1, 0), -2);
        CHECK.due("counts(1, 8)", x.counts(1, 8), -2);
        CHECK.due("counts(1, -1)", x.counts(1, -1), -2);
        CHECK.due("counts(0, 0)", x.counts(0, 0), -6);
        CHECK.due("counts(0, 8)", x.counts(0, 8), -2);
        CHECK.due("stops(4)", x.stops(4), -2);
        CHECK.due("stops(-1)", x.stops(-1), -2);
        CHECK.due("stops(0)", x.stops(0), -6);
        CHECK.due("mend(4)", x.mend(4), -2);
        CHECK.due("mend(-1)", x.mend(-1), -2);
        CHECK.due("mend(0)", x.mend(0), -6);
        CHECK.due("odds(-1, 1)", x.odds(-1, 1), -2);
        CHECK.due("odds(2000000001, 1)", x.odds(2000000001, 1), -2);
        CHECK.due("odds(0, 0)", x.odds(0, 0), -2);
        CHECK.due("odds(0, 51)", x.odds(0, 51), -2);
        CHECK.due("carries(6, 0, 1)", x.carries(6, 0, 1), -2);
        CHECK.due("carries(-1, 0, 1)", x.carries(-1, 0, 1), -2);
        CHECK.due("carries(0, -1, 1)", x.carries(0, -1, 1), -2);
        CHECK.due("carries(0, 2000000001, 1)", x.carries(0, 2000000001, 1), -2);
        CHECK.due("carries(0, 0, 0)", x.carries(0, 0, 0), -2);
        CHECK.due("carries(0, 0, 51)", x.carries(0, 0, 51), -2);
    }
}
