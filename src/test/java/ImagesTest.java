/** Promises 35 to 37: count, keep, back. */
public final class ImagesTest {
    private static final Check CHECK = new Check("ImagesTest");

    public static void main(String[] args) {
        count();
        keepAndBack();
        whatImagesLeaveOut();
        severalImages();
        wrongNumbers();
        CHECK.finish();
    }

    private static void dueCounts(StitchSays x, int... due) {
        for (int what = 0; what < due.length; what++) {
            CHECK.due("count(" + what + ")", x.count(what), due[what]);
        }
    }

    private static StitchSays full() {
        StitchSays x = new StitchSays();
        Check.pattern(x, "wide 12 rows 2;row fk;");
        Check.hand(x, "hand f 100 h 0 m 0;");
        Check.way(x, 0, "way over f;");
        Check.way(x, 4, "way over f step 2;");
        Check.watcher(x, "stop if purls more 11;stop if 1 same 2;stop if 1 same 2;");
        Check.losses(x, "lose columns 0 to 0;wash;");
        x.knit(1, 0);
        x.knit(3, 0);
        Check.put(x, 3, 0, "a");
        return x;
    }

    private static void count() {
        StitchSays x = full();
        x.read(3, 0);
        x.row(0, 2, 0);
        x.row(2, 0, 5);
        x.row(2, 1, 6);
        Check.tape(x, "seven bytes");
        dueCounts(x, 2, 12, 12, 2, 3, 2, 2, 11, 1, 2);
        CHECK.due("count(10)", x.count(10), -1);
        CHECK.due("count(-1)", x.count(-1), -1);
    }

    private static void keepAndBack() {
        StitchSays x = full();
        String cloth = Check.cloth(x, 3);
        CHECK.due("keep", x.keep(1), 0);
        dueCounts(x, 2, 12, 12, 2, 3, 2, 2);
        Check.pattern(x, "wide 3 rows 4;row h;");
        Check.hand(x, "hand f 0 h 0 m 0;");
        Check.way(x, 0, "way over h;");
        Check.way(x, 1, "way over h;");
        Check.watcher(x, "");
        Check.losses(x, "moth 1 from 0;");
        x.knit(0, 0);
        dueCounts(x, 4, 3, 12, 3, 0, 1, 1);
        CHECK.due("back", x.back(1), 0);
        dueCounts(x, 2, 12, 12, 2, 3, 2, 2);
        CHECK.due("no CLOTH 0", x.says(0), -6);
        CHECK.dueText("CLOTH 3", Check.cloth(x, 3), cloth);
        CHECK.due("a by WAY 0", x.says(3), 1);
        CHECK.due("no WAY 1", x.room(1), -6);
        CHECK.due("WAY 0", x.room(0), 12);
        CHECK.due("the sort", x.sort(0, 0), 2);
        CHECK.due("the WATCHER", x.stops(1), 0);
        CHECK.due("the HAND", x.knit(0, 3), 12);
        CHECK.due("the LOSSES", x.lose(1), 2);
        // The IMAGE stays as it is while its copy goes on.
        x.turn(3, 0, 2);
        x.way(0);
        CHECK.due("back again", x.back(1), 0);
        CHECK.dueText("CLOTH 3", Check.cloth(x, 3), cloth);
        CHECK.due("CLOTH 1 lost nothing", x.counts(1, 6), 0);
    }

    private static void whatImagesLeaveOut() {
        StitchSays x = full();
        x.read(3, 0);
        x.row(0, 0, 3);
        Check.tape(x, "abc");
        x.keep(0);
        CHECK.due("the TAPE stays", x.count(7), 3);
        Check.put(x, 3, 0, "b");
        x.read(3, 0);
        x.row(1, 0, 3);
        Check.tape(x, "abcd");
        x.back(0);
        CHECK.due("bytes of the TAPE", x.count(7), 4);
        CHECK.due("what was read", x.letter(0), 'b');
        CHECK.due("SLOTS", x.count(9), 2);
        CHECK.due("the CLOTH is back", x.read(3, 0), 1);
        CHECK.due("what it says", x.letter(0), 'a');
        // The latest FAULT is of the latest text, whatever IMAGE one goes back to.
        Check.tape(x, "wide 17");
        x.pattern();
        x.back(0);
        CHECK.due("the latest FAULT", x.fault(0), 2);
        CHECK.due("its place", x.fault(1), 5);
    }

    private static void severalImages() {
        StitchSays x = new StitchSays();
        CHECK.due("keep nothing", x.keep(0), 0);
        Check.pattern(x, "wide 3 rows 1;row f;");
        x.knit(0, 0);
        x.keep(2);
        x.turn(0, 0, 1);
        x.keep(1);
        CHECK.due("back to nothing", x.back(0), 0);
        dueCounts(x, 0, 0, 0, 0, 0, 0, 0);
        CHECK.due("no PATTERN", x.knit(0, 0), -6);
        x.back(1);
        CHECK.dueText("IMAGE 1", Check.cloth(x, 0), ".p.");
        x.back(2);
        CHECK.dueText("IMAGE 2", Check.cloth(x, 0), "...");
        x.turn(0, 0, 0);
        CHECK.due("in place of another", x.keep(1), 0);
        x.back(2);
        x.back(1);
        CHECK.dueText("IMAGE 1", Check.cloth(x, 0), "p..");
    }

    private static void wrongNumbers() {
        StitchSays x = new StitchSays();
        CHECK.due("keep(3)", x.keep(3), -2);
        CHECK.due("keep(-1)", x.keep(-1), -2);
        CHECK.due("back(3)", x.back(3), -2);
        CHECK.due("back(-1)", x.back(-1), -2);
        CHECK.due("back(2)", x.back(2), -6);
        x.keep(1);
        CHECK.due("back(2)", x.back(2), -6);
        CHECK.due("back(1)", x.back(1), 0);
    }
}
