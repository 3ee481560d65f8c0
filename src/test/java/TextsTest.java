/** Promises 4 to 9: the texts on the TAPE, what they change, and their FAULTS. */
public final class TextsTest {
    private static final Check CHECK = new Check("TextsTest");
    private static final int PATTERN = Check.PATTERN;
    private static final int HAND = Check.HAND;
    private static final int WAY = Check.WAY;
    private static final int WATCHER = Check.WATCHER;
    private static final int LOSSES = Check.LOSSES;

    public static void main(String[] args) {
        patternTexts();
        handTexts();
        wayTexts();
        watcherTexts();
        lossesTexts();
        whatTheTapeIsThen();
        whatStaysByFaults();
        whatThePatternEnds();
        faultOfTheLatest();
        CHECK.finish();
    }

    private static void fine(int kind, String text, int want) {
        CHECK.fine(kind, text, want);
    }

    private static void faulty(int kind, String text, int fault, int place) {
        CHECK.faulty(kind, text, fault, place);
    }

    private static void patternTexts() {
        fine(PATTERN, "wide 4 rows 3;row kpf;", 3);
        fine(PATTERN, "wide 4 rows 3 ; row kp ; row fhm ;", 4);
        fine(PATTERN, "wide 16 rows 16;row fhm;", 256);
        fine(PATTERN, "wide 1 rows 1;row f;", 1);
        fine(PATTERN, "wide 1 rows 1;row kf;", 0);
        fine(PATTERN, "wide 1 rows 1;row k;row f;", 0);
        fine(PATTERN, "\n wide4\nrows3;row\n\nk; \n", 0);
        fine(PATTERN, "wide 0004 rows 00000000000000000002;row f;", 8);
        fine(PATTERN, "wide 12 rows 1;row kkkkkkkkkkkf;", 1);
        fine(PATTERN, "wide 2 rows 16;" + "row f;".repeat(7) + "row k;", 28);
        faulty(PATTERN, "", 1, 0);
        faulty(PATTERN, " \n ", 1, 3);
        faulty(PATTERN, "Wide 4 rows 3;row k;", 1, 0);
        faulty(PATTERN, "widee 4 rows 3;row k;", 1, 0);
        faulty(PATTERN, "wid 4 rows 3;row k;", 1, 0);
        faulty(PATTERN, "4 wide", 1, 0);
        faulty(PATTERN, "wide", 1, 4);
        faulty(PATTERN, "wide x rows 3;row k;", 1, 5);
        faulty(PATTERN, "wide 0 rows 3;row k;", 2, 5);
        faulty(PATTERN, "wide 17 rows 3;row k;", 2, 5);
        faulty(PATTERN, "wide 99999999999999999999 rows 3;row k;", 2, 5);
        faulty(PATTERN, "wide 4294967300 rows 3;row k;", 2, 5);
        faulty(PATTERN, "wide 4 rows 0;row k;", 2, 12);
        faulty(PATTERN, "wide 4 rows 17 k", 2, 12);
        faulty(PATTERN, "wide 4 rows -3;row k;", 1, 12);
        faulty(PATTERN, "wide 4 row 3;row k;", 1, 7);
        faulty(PATTERN, "wide 4 rows 3 row k;", 1, 14);
        faulty(PATTERN, "wide 4 rows 3;", 1, 14);
        faulty(PATTERN, "wide 4 rows 3; \n", 1, 16);
        faulty(PATTERN, "wide 4 rows 3;rows k;", 1, 14);
        faulty(PATTERN, "wide 4 rows 3;rowk;", 1, 14);
        faulty(PATTERN, "wide 4 rows 3;row ;", 1, 18);
        faulty(PATTERN, "wide 4 rows 3;row 4;", 1, 18);
        faulty(PATTERN, "wide 4 rows 3;row kx;", 1, 18);
        faulty(PATTERN, "wide 4 rows 3;row kK;", 1, 19);
        faulty(PATTERN, "wide 4 rows 3;row kkkkkkkkkkkkk;", 1, 18);
        faulty(PATTERN, "wide 4 rows 3;row k", 1, 19);
        faulty(PATTERN, "wide 4 rows 3;row k p;", 1, 20);
        faulty(PATTERN, "wide 4 rows 3;row k;;", 1, 20);
        faulty(PATTERN, "wide 4 rows 3;row k;row", 1, 23);
        faulty(PATTERN, "wide 4 rows 3;row k;\t", 1, 20);
        faulty(PATTERN, "wide 4 rows 3;" + "row k;".repeat(9), 3, 62);
        faulty(PATTERN, "wide 4 rows 3;" + "row k;".repeat(8) + " row", 3, 63);
        faulty(PATTERN, "wide 4 rows 3;" + "row k;".repeat(8) + " rox", 1, 63);
        faulty(PATTERN, "wide 4 rows 3;" + "row k;".repeat(7) + "row x;row k;", 1, 60);
    }

    private static void handTexts() {
        fine(HAND, "hand f 30 h 20 m 10;", 0);
        fine(HAND, "hand f0h100m000;", 0);
        faulty(HAND, "", 1, 0);
        faulty(HAND, "hand f 101 h 20 m 10;", 2, 7);
        faulty(HAND, "hand f 1 h 101 m 10;", 2, 11);
        faulty(HAND, "hand f 1 h 1 m 101", 2, 15);
        faulty(HAND, "hand h 1 f 1 m 1;", 1, 5);
        faulty(HAND, "hand f 1 m 1 h 1;", 1, 9);
        faulty(HAND, "hand f 1 h 1 h 1;", 1, 13);
        faulty(HAND, "hand f 1 h 1 m 1", 1, 16);
        faulty(HAND, "hand f 1 h 1 m 1;;", 1, 17);
        faulty(HAND, "hand f 1 h 1 m 1;hand f 1 h 1 m 1;", 1, 17);
        faulty(HAND, "handf 1 h 1 m 1;", 1, 0);
        faulty(HAND, "hand f f", 1, 7);
    }

    private static void wayTexts() {
        // Without a PATTERN there are no places, so there is no room.
        fine(WAY, "way over f;", 0);
        fine(WAY, "way over mhf step 9 group 5 guard 5 turn top;", 0);
        fine(WAY, "way over f guard 1;", 0);
        fine(WAY, "way over f step 1 guard 3 top;", 0);
        faulty(WAY, "", 1, 0);
        faulty(WAY, "way f;", 1, 4);
        faulty(WAY, "way over ;", 1, 9);
        faulty(WAY, "way over 3;", 1, 9);
        faulty(WAY, "way over fk;", 1, 9);
        faulty(WAY, "way over ff;", 1, 9);
        faulty(WAY, "way over fhmf;", 1, 9);
        faulty(WAY, "way over top;", 1, 9);
        faulty(WAY, "way over f h;", 1, 11);
        faulty(WAY, "way over f", 1, 10);
        faulty(WAY, "way over f step 0;", 2, 16);
        faulty(WAY, "way over f step 10;", 2, 16);
        faulty(WAY, "way over f step;", 1, 15);
        faulty(WAY, "way over f group 0;", 2, 17);
        faulty(WAY, "way over f group 6;", 2, 17);
        faulty(WAY, "way over f guard 0;", 2, 17);
        faulty(WAY, "way over f guard 2;", 2, 17);
        faulty(WAY, "way over f guard 4;", 2, 17);
        faulty(WAY, "way over f guard 7;", 2, 17);
        faulty(WAY, "way over f guard 10001;", 2, 17);
        faulty(WAY, "way over f guard x;", 1, 17);
        faulty(WAY, "way over f group 2 step 2;", 1, 19);
        faulty(WAY, "way over f top turn;", 1, 15);
        faulty(WAY, "way over f turn turn;", 1, 16);
        faulty(WAY, "way over f;way over f;", 1, 11);
    }

    private static void watcherTexts() {
        fine(WATCHER, "", 0);
        fine(WATCHER, " \n", 0);
        fine(WATCHER, "stop if purls more 3;", 1);
        fine(WATCHER, "stop if0more0and 0less999 and 0 same 0;", 1);
        fine(WATCHER, "stop if purls plus holes minus slips times runs times 2 more most;"
            + "stop if least same lost plus free;", 2);
        fine(WATCHER, "stop if 1 more 1;".repeat(12), 12);
        // The densest text of a full TAPE.
        fine(WATCHER, "stop if0" + "plus0".repeat(115) + "same0;", 1);
        fine(WATCHER, "stop if0same0" + "and0same0".repeat(65) + ";", 1);
        faulty(WATCHER, "stop if 1 more 1;".repeat(13), 3, 204);
        faulty(WATCHER, "stop if 1 more 1;".repeat(12) + "\nstop", 3, 205);
        faulty(WATCHER, "stop if 1 more 1;".repeat(12) + "halt", 1, 204);
        faulty(WATCHER, "stop", 1, 4);
        faulty(WATCHER, "stop when 1 more 1;", 1, 5);
        faulty(WATCHER, "stop if;", 1, 7);
        faulty(WATCHER, "stop if 1000 more 1;", 2, 8);
        faulty(WATCHER, "stop if 1 more 1000;", 2, 15);
        faulty(WATCHER, "stop if 1 more 999999999999;", 2, 15);
        faulty(WATCHER, "stop if purl more 1;", 1, 8);
        faulty(WATCHER, "stop if 1;", 1, 9);
        faulty(WATCHER, "stop if 1 and 1 more 1;", 1, 10);
        faulty(WATCHER, "stop if 1 more 1 more 1;", 1, 17);
        faulty(WATCHER, "stop if 1 more 1 and 2;", 1, 22);
        faulty(WATCHER, "stop if 1 more 1 and 2 and", 1, 23);
        faulty(WATCHER, "stop if 1 more;", 1, 14);
        faulty(WATCHER, "stop if 1 plus more 1;", 1, 15);
        faulty(WATCHER, "stop if 1 times times 1 more 1;", 1, 16);
        faulty(WATCHER, "stop if 1 2 more 1;", 1, 10);
        faulty(WATCHER, "stop if minus 1 more 1;", 1, 8);
        faulty(WATCHER, "stop if 1 more 1", 1, 16);
        faulty(WATCHER, "stop if 1 more 1 stop if 1 more 1;", 1, 17);
        faulty(WATCHER, "stop if 1 more 1;;", 1, 17);
    }

    private static void lossesTexts() {
        fine(LOSSES, "", 0);
        fine(LOSSES, "lose rows 0 to 15;lose columns 3 to 3;moth 1 from 0;moth 99 from 255;wash;", 5);
        fine(LOSSES, "wash;".repeat(12), 12);
        faulty(LOSSES, "wash;".repeat(13), 3, 60);
        faulty(LOSSES, "wash;".repeat(12) + "lose x", 3, 60);
        faulty(LOSSES, "wash;".repeat(12) + " moth", 3, 61);
        faulty(LOSSES, "wash;".repeat(12) + "row", 1, 60);
        faulty(LOSSES, "wash;".repeat(12) + ";", 1, 60);
        faulty(LOSSES, "lose", 1, 4);
        faulty(LOSSES, "lose row 1 to 2;", 1, 5);
        faulty(LOSSES, "lose rows 16 to 17;", 2, 10);
        faulty(LOSSES, "lose rows 3 to 16;", 2, 15);
        faulty(LOSSES, "lose rows 3 to 2;", 2, 15);
        faulty(LOSSES, "lose columns 3 to 2;", 2, 18);
        faulty(LOSSES, "lose columns 16 to 16;", 2, 13);
        faulty(LOSSES, "lose columns 1 to 16;", 2, 18);
        faulty(LOSSES, "lose rows 3 from 4;", 1, 12);
        faulty(LOSSES, "lose rows to", 1, 10);
        faulty(LOSSES, "moth 0 from 3;", 2, 5);
        faulty(LOSSES, "moth 100 from 3;", 2, 5);
        faulty(LOSSES, "moth 5 from 256;", 2, 12);
        faulty(LOSSES, "moth 5 to 25;", 1, 7);
        faulty(LOSSES, "moth 5;", 1, 6);
        faulty(LOSSES, "wash", 1, 4);
        faulty(LOSSES, "wash wash;", 1, 5);
        faulty(LOSSES, "wash;x", 1, 5);
    }

    private static void whatTheTapeIsThen() {
        StitchSays x = new StitchSays();
        Check.tape(x, "way over f;");
        CHECK.due("way(6)", x.way(6), -2);
        CHECK.due("way(-1)", x.way(-1), -2);
        CHECK.due("the TAPE by -2", x.count(7), 11);
        CHECK.due("fault(0) by -2", x.fault(0), 0);
        CHECK.due("way(5)", x.way(5), 0);
        CHECK.due("the TAPE then", x.count(7), 0);
        CHECK.due("ways", x.count(3), 1);
        CHECK.due("the TAPE is empty", x.way(5), -4);
        CHECK.due("its place", x.fault(1), 0);
    }

    private static void whatStaysByFaults() {
        StitchSays x = new StitchSays();
        Check.pattern(x, "wide 10 rows 1;row f;");
        Check.hand(x, "hand f 100 h 0 m 0;");
        Check.way(x, 0, "way over f;");
        Check.watcher(x, "stop if purls more 9;");
        Check.losses(x, "lose columns 2 to 3;");
        x.knit(0, 5);
        for (int kind = PATTERN; kind <= LOSSES; kind++) {
            String[] texts = {"wide 3 rows 3;row k;row x;", "hand f 0 h 0 m 0", "way over f step 2",
                "stop if 1 more 0;stop", "wash;wash;was"};
            CHECK.due("a FAULT", Check.tell(x, kind, texts[kind]), -4);
        }
        CHECK.due("rows stay", x.count(0), 1);
        CHECK.due("columns stay", x.count(1), 10);
        CHECK.due("FREE stay", x.count(2), 10);
        CHECK.due("CLOTHS stay", x.count(6), 1);
        CHECK.due("the WAY stays", x.room(0), 10);
        CHECK.due("the HAND stays", x.knit(1, 5), 10);
        CHECK.due("the WATCHER stays", x.count(4), 1);
        CHECK.due("the WATCHER stops", x.stops(0), 0);
        CHECK.due("LOSSES stay", x.count(5), 1);
        CHECK.due("the same LOSSES", x.lose(0), 2);
    }

    private static void whatThePatternEnds() {
        StitchSays x = new StitchSays();
        CHECK.due("a WAY ahead of a PATTERN", Check.way(x, 2, "way over f;"), 0);
        Check.pattern(x, "wide 10 rows 1;row f;");
        CHECK.due("its room then", x.room(2), 10);
        Check.hand(x, "hand f 100 h 100 m 100;");
        x.knit(0, 5);
        x.knit(3, 5);
        CHECK.due("CLOTHS", x.count(6), 2);
        CHECK.due("another PATTERN", Check.pattern(x, "wide 3 rows 2;row fk;"), 4);
        CHECK.due("no CLOTHS", x.count(6), 0);
        CHECK.due("no CLOTH 0", x.at(0, 0, 0), -1);
        CHECK.due("no CLOTH 3", x.lose(3), -6);
        CHECK.due("the WAY stays", x.room(2), 4);
        CHECK.due("the HAND stays", x.knit(0, 1), 4);
        CHECK.due("a WAY in place of another", Check.way(x, 2, "way over f step 2;"), 2);
        CHECK.due("WAYS", x.count(3), 1);
        CHECK.due("a WATCHER", Check.watcher(x, "stop if 1 more 0;stop if 1 more 0;"), 2);
        CHECK.due("another WATCHER", Check.watcher(x, ""), 0);
        CHECK.due("it stops none", x.stops(0), -1);
        CHECK.due("LOSSES", Check.losses(x, "wash;lose rows 0 to 0;"), 2);
        CHECK.due("other LOSSES", Check.losses(x, "wash;"), 1);
        CHECK.due("nothing is lost", x.lose(0), 0);
    }

    private static void faultOfTheLatest() {
        StitchSays x = new StitchSays();
        CHECK.due("fault(2)", x.fault(2), -1);
        CHECK.due("fault(-1)", x.fault(-1), -1);
        Check.pattern(x, "wide 20");
        CHECK.due("fault", x.fault(0), 2);
        CHECK.due("place", x.fault(1), 5);
        CHECK.due("fault(2)", x.fault(2), -1);
        CHECK.due("put is no reading by -6", Check.put(x, 0, 0, "A"), -6);
        CHECK.due("fault", x.fault(0), 2);
        Check.hand(x, "hand f 1 h 1 m 1;");
        CHECK.due("fault of a fine one", x.fault(0), 0);
        CHECK.due("place of a fine one", x.fault(1), -1);
        Check.hand(x, "hand f 0 h 0 m 0;");
        Check.pattern(x, "wide 15 rows 1;row f;");
        Check.way(x, 0, "way over f;");
        x.knit(0, 0);
        CHECK.due("faulty words", Check.put(x, 0, 0, "aB"), -4);
        CHECK.due("fault of words", x.fault(0), 1);
        CHECK.due("place of words", x.fault(1), 1);
        CHECK.due("put", Check.put(x, 0, 0, "ab"), 7);
        CHECK.due("fault of fine words", x.fault(0), 0);
        CHECK.due("place of fine words", x.fault(1), -1);
    }
}
