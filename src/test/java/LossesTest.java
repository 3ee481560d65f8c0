/** Promises 26 and 27: best, lose. */
public final class LossesTest {
    private static final Check CHECK = new Check("LossesTest");

    public static void main(String[] args) {
        lose();
        bestByChanges();
        bestByLosses();
        bestByWatcher();
        wrongNumbers();
        CHECK.finish();
    }

    private static void lose(String losses, int lost, String cloth) {
        StitchSays x = new StitchSays();
        Check.pattern(x, "wide 4 rows 3;row fhmp;row h;");
        x.knit(2, 0);
        Check.lay(x, 2, "1111111111");
        CHECK.dueText("ahead", Check.cloth(x, 2), "posp/oooo/posp");
        Check.losses(x, losses);
        CHECK.due("lose by " + losses, x.lose(2), lost);
        CHECK.dueText(losses, Check.cloth(x, 2), cloth);
        CHECK.due("lose again by " + losses, x.lose(2), lost);
        CHECK.dueText(losses + " again", Check.cloth(x, 2), cloth);
    }

    private static void lose() {
        lose("", 0, "posp/oooo/posp");
        lose("lose rows 1 to 1;", 4, "posp/####/posp");
        lose("lose rows 0 to 1;", 8, "####/####/posp");
        lose("lose rows 2 to 15;", 4, "posp/oooo/####");
        lose("lose rows 3 to 15;", 0, "posp/oooo/posp");
        lose("lose rows 0 to 15;", 12, "####/####/####");
        lose("lose columns 1 to 2;", 6, "p##p/o##o/p##p");
        lose("lose columns 3 to 9;", 3, "pos#/ooo#/pos#");
        lose("lose columns 4 to 4;", 0, "posp/oooo/posp");
        lose("moth 5 from 0;", 3, "#osp/o#oo/po#p");
        lose("moth 5 from 1;", 3, "p#sp/oo#o/pos#");
        lose("moth 1 from 9;", 3, "posp/oooo/p###");
        lose("moth 99 from 11;", 1, "posp/oooo/pos#");
        lose("moth 1 from 12;", 0, "posp/oooo/posp");
        lose("moth 7 from 255;", 0, "posp/oooo/posp");
        lose("wash;", 0, "p.sp/..../p.sp");
        lose("lose columns 1 to 1;wash;", 3, "p#sp/.#../p#sp");
        lose("wash;lose columns 1 to 1;moth 4 from 0;", 6, "##sp/##../##sp");
    }

    /** WORDS read from CLOTH 3 by WAY 5; CLOTH 0 is all plain. */
    private static StitchSays withWords(String words) {
        StitchSays x = new StitchSays();
        Check.pattern(x, "wide 16 rows 6;row f;");
        Check.way(x, 5, "way over f;");
        x.knit(3, 0);
        Check.put(x, 3, 5, words);
        x.read(3, 5);
        x.knit(0, 0);
        return x;
    }

    private static void bestByChanges() {
        StitchSays x = withWords("ab");
        CHECK.due("the only one", x.best(0), 5);
        Check.way(x, 4, "way over f guard 3;");
        CHECK.due("thrice as many", x.best(0), 5);
        Check.way(x, 3, "way over f top;");
        CHECK.due("the first of several", x.best(0), 3);
        Check.put(x, 0, 5, "ac");
        CHECK.due("one change is fewer", x.best(0), 5);
        Check.put(x, 0, 4, "ab");
        CHECK.due("none is fewer", x.best(0), 4);
        CHECK.due("the words that were read latest", x.read(0, 4), 2);
        Check.way(x, 0, "way over f step 9;");
        CHECK.due("no room by WAY 0", x.best(0), 4);
        Check.pattern(x, "wide 14 rows 1;row f;");
        x.knit(0, 0);
        CHECK.due("no room by all", x.best(0), -1);
        String before = Check.cloth(x, 0);
        x.best(0);
        CHECK.dueText("the CLOTH stays", Check.cloth(x, 0), before);
        CHECK.dueText("what was read stays", Check.letters(x), "ab");
    }

    private static void bestByLosses() {
        StitchSays x = withWords("a");
        Check.way(x, 4, "way over f top;");
        Check.losses(x, "lose rows 5 to 5;");
        CHECK.due("by WAY 4 it is lost", x.best(0), 5);
        Check.losses(x, "lose rows 0 to 0;");
        CHECK.due("by WAY 5 it is lost", x.best(0), 4);
        Check.losses(x, "lose rows 0 to 0;lose rows 5 to 5;");
        CHECK.due("by both", x.best(0), -1);
        Check.way(x, 3, "way over f guard 3;");
        CHECK.due("row 0 has five whole BITS and a place", x.best(0), -1);
        Check.losses(x, "lose rows 5 to 5;moth 3 from 0;");
        CHECK.due("two of three are left", x.best(0), 3);
        Check.losses(x, "moth 99 from 0;lose rows 5 to 5;");
        CHECK.due("a LETTER in doubt", x.best(0), 3);
        CHECK.due("nothing is lost in the CLOTH", x.counts(0, 6), 0);
        // Holes that are washed out say other words.
        Check.pattern(x, "wide 10 rows 2;row h;row f;");
        Check.way(x, 3, "way over h;");
        Check.way(x, 4, "way over f;");
        x.knit(0, 0);
        Check.losses(x, "");
        CHECK.due("by holes", x.best(0), 3);
        Check.losses(x, "wash;");
        CHECK.due("not by holes", x.best(0), 4);
        // What is washed out may leave other words, which are not those.
        x = withWords("q");
        Check.pattern(x, "wide 5 rows 2;row hfffm;row f;");
        Check.way(x, 5, "way over fhm;");
        x.knit(0, 0);
        CHECK.due("q", x.best(0), 5);
        Check.losses(x, "wash;");
        CHECK.due("a instead of q", x.best(0), -1);
    }

    private static void bestByWatcher() {
        StitchSays x = withWords("a");
        Check.way(x, 4, "way over f guard 3;");
        CHECK.due("WAY 5 changes six", x.best(0), 5);
        Check.watcher(x, "stop if purls same 6;");
        CHECK.due("six are stopped", x.best(0), 4);
        Check.watcher(x, "stop if 0 same 1;stop if purls more 5;");
        CHECK.due("all are stopped", x.best(0), -1);
        // The WATCHER stands ahead of the LOSSES.
        Check.watcher(x, "stop if lost more 0;");
        Check.losses(x, "lose rows 5 to 5;");
        CHECK.due("nothing is lost yet", x.best(0), 5);
        Check.losses(x, "lose rows 0 to 0;");
        x.lose(0);
        Check.losses(x, "");
        Check.way(x, 5, "way over f top;");
        CHECK.due("lost ahead", x.best(0), -1);
        Check.watcher(x, "");
        CHECK.due("without a WATCHER", x.best(0), 5);
    }

    private static void wrongNumbers() {
        StitchSays x = new StitchSays();
        CHECK.due("best(0)", x.best(0), -6);
        CHECK.due("best(4)", x.best(4), -2);
        CHECK.due("best(-1)", x.best(-1), -2);
        CHECK.due("lose(0)", x.lose(0), -6);
        CHECK.due("lose(4)", x.lose(4), -2);
        CHECK.due("lose(-1)", x.lose(-1), -2);
        Check.pattern(x, "wide 10 rows 1;row f;");
        Check.way(x, 0, "way over f;");
        x.knit(0, 0);
        CHECK.due("nothing was read", x.best(0), -5);
        Check.put(x, 0, 0, "a");
        Check.losses(x, "moth 99 from 0;");
        x.lose(0);
        x.read(0, 0);
        CHECK.due("a LETTER can't be told", x.best(0), -5);
        CHECK.due("no such CLOTH", x.best(1), -6);
    }
}
