/** Promises 1, 2, 3: a new object, feed, end. */
public final class TapeTest {
    private static final Check CHECK = new Check("TapeTest");

    public static void main(String[] args) {
        newObject();
        feed();
        end();
        bytes();
        CHECK.finish();
    }

    private static void newObject() {
        StitchSays x = new StitchSays();
        for (int what = 0; what <= 9; what++) {
            CHECK.due("count(" + what + ") of a new object", x.count(what), 0);
        }
        for (int c = 0; c < 4; c++) {
            CHECK.due("says of a new object", x.says(c), -6);
            CHECK.due("at of a new object", x.at(c, 0, 0), -1);
        }
        for (int k = 0; k < 6; k++) {
            CHECK.due("room of a new object", x.room(k), -6);
        }
        CHECK.due("sort of a new object", x.sort(0, 0), -1);
        CHECK.due("fault(0) of a new object", x.fault(0), 0);
        CHECK.due("fault(1) of a new object", x.fault(1), -1);
        CHECK.due("letter of a new object", x.letter(0), -1);
        for (int k = 0; k < 3; k++) {
            CHECK.due("back of a new object", x.back(k), -6);
        }
        // No HAND: its shares are 0, no WATCHER stops, no LOSSES.
        CHECK.due("pattern", Check.pattern(x, "wide 16 rows 1;row fhm;"), 16);
        CHECK.due("knit without a HAND", x.knit(0, 0), 0);
        CHECK.due("stops without a WATCHER", x.stops(0), -1);
        CHECK.due("lose without LOSSES", x.lose(0), 0);
    }

    private static void feed() {
        StitchSays x = new StitchSays();
        for (int i = 1; i <= 30; i++) {
            CHECK.due("feed " + i, x.feed(1, 2, 3, 4, 5), 20 * i);
        }
        CHECK.due("feed 31", x.feed(1, 2, 3, 4, 5), -1);
        CHECK.due("bytes behind feed 31", x.count(7), 600);
        CHECK.due("end", x.end(581), 581);
        CHECK.due("feed to 601", x.feed(1, 2, 3, 4, 5), -1);
        CHECK.due("bytes behind it", x.count(7), 581);
        CHECK.due("end", x.end(580), 580);
        CHECK.due("feed to 600", x.feed(1, 2, 3, 4, 5), 600);
    }

    private static void end() {
        StitchSays x = new StitchSays();
        CHECK.due("end(0)", x.end(0), 0);
        CHECK.due("end(1) of none", x.end(1), -1);
        x.feed(0, 0, 0, 0, 0);
        CHECK.due("end(-1)", x.end(-1), -1);
        CHECK.due("end(21)", x.end(21), -1);
        CHECK.due("bytes", x.count(7), 20);
        CHECK.due("end(20)", x.end(20), 20);
        CHECK.due("end(7)", x.end(7), 7);
        CHECK.due("bytes", x.count(7), 7);
        CHECK.due("end(8)", x.end(8), -1);
        CHECK.due("end(least)", x.end(Integer.MIN_VALUE), -1);
        CHECK.due("end(most)", x.end(Integer.MAX_VALUE), -1);
    }

    private static void bytes() {
        StitchSays x = new StitchSays();
        // "wide 2 rows 3;row k;" is twenty bytes, the highest of each number first.
        x.feed(0x77696465, 0x20322072, 0x6f777320, 0x333b726f, 0x77206b3b);
        CHECK.due("pattern as numbers", x.pattern(), 0);
        CHECK.due("rows", x.count(0), 3);
        CHECK.due("columns", x.count(1), 2);
        // Bytes above 127 are bytes too, and none of a text.
        x.feed(0x77696465, 0x20320fff, -1, -1, -1);
        x.end(8);
        CHECK.due("pattern with bytes 15, 255", x.pattern(), -4);
        CHECK.due("its place", x.fault(1), 6);
        Check.tape(x, "wide 2" + (char) 0xf7 + "rows");
        CHECK.due("pattern with byte 247", x.pattern(), -4);
        CHECK.due("its fault", x.fault(0), 1);
        CHECK.due("its place", x.fault(1), 6);
    }
}
