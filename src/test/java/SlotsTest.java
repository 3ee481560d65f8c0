/** Promises 38 to 41: row, write, paste, lay. */
public final class SlotsTest {
    private static final Check CHECK = new Check("SlotsTest");

    public static void main(String[] args) {
        row();
        write();
        widths();
        paste();
        pasteWithin();
        lay();
        layOverLosses();
        CHECK.finish();
    }

    private static StitchSays plain(int wide) {
        StitchSays x = new StitchSays();
        Check.pattern(x, "wide " + wide + " rows 1;row f;");
        x.knit(0, 0);
        return x;
    }

    /** What a SLOT's row has: 1 where it is not 0. */
    private static String numbers(StitchSays x, int slot) {
        x.knit(2, 0);
        x.lay(slot, 2);
        return Check.cloth(x, 2).replace('.', '0').replace('p', '1');
    }

    private static void row() {
        StitchSays x = plain(4);
        CHECK.due("row(-1, 0, 1)", x.row(-1, 0, 1), -2);
        CHECK.due("row(4, 0, 1)", x.row(4, 0, 1), -2);
        CHECK.due("row(0, -1, 1)", x.row(0, -1, 1), -2);
        CHECK.due("row(0, 4, 1)", x.row(0, 4, 1), -2);
        CHECK.due("row(0, 0, 61)", x.row(0, 0, 61), -2);
        CHECK.due("row(0, 0, most)", x.row(0, 0, Integer.MAX_VALUE), -2);
        CHECK.due("row(0, 0, -1)", x.row(0, 0, -1), -3);
        CHECK.due("row(0, 0, least)", x.row(0, 0, Integer.MIN_VALUE), -3);
        CHECK.due("row(4, 0, -1)", x.row(4, 0, -1), -2);
        CHECK.due("row(0, 4, -1)", x.row(0, 4, -1), -2);
        CHECK.due("no rows", x.count(9), 0);
        CHECK.due("row(0, 0, 60)", x.row(0, 0, 60), 0);
        CHECK.due("row(3, 3, 0)", x.row(3, 3, 0), 0);
        CHECK.due("two rows", x.count(9), 2);
        CHECK.due("write(0, 59, 1)", x.write(0, 59, 1), 0);
        CHECK.due("write(0, 1, 1)", x.write(0, 1, 1), 0);
        CHECK.dueText("written", numbers(x, 0), "0100");
        CHECK.due("row(0, 0, -1)", x.row(0, 0, -1), -3);
        CHECK.dueText("the SLOT stays", numbers(x, 0), "0100");
        CHECK.due("row(0, 1, 60)", x.row(0, 1, 60), 0);
        CHECK.dueText("all 0", numbers(x, 0), "0000");
        CHECK.due("two rows", x.count(9), 2);
    }

    private static void write() {
        StitchSays x = plain(4);
        CHECK.due("write(4, 0, 1)", x.write(4, 0, 1), -2);
        CHECK.due("write(-1, 0, 1)", x.write(-1, 0, 1), -2);
        CHECK.due("write(0, 0, 1)", x.write(0, 0, 1), -6);
        CHECK.due("write(0, -1, 1)", x.write(0, -1, 1), -6);
        x.row(0, 0, 3);
        CHECK.due("write(0, 3, 1)", x.write(0, 3, 1), -7);
        CHECK.due("write(0, -1, 1)", x.write(0, -1, 1), -7);
        CHECK.due("write(0, least, 1)", x.write(0, Integer.MIN_VALUE, 1), -7);
        CHECK.due("write(0, most, 1)", x.write(0, Integer.MAX_VALUE, 1), -7);
        CHECK.due("write(0, 2, 7)", x.write(0, 2, 7), 0);
        CHECK.dueText("written", numbers(x, 0), "0010");
        x.write(0, 2, 0);
        CHECK.dueText("written over", numbers(x, 0), "0000");
        x.row(1, 0, 0);
        CHECK.due("a row of none", x.write(1, 0, 1), -7);
    }

    private static void widths() {
        StitchSays x = plain(5);
        long[] numbers = {128L, 256L, 65536L, 1L << 32, Long.MIN_VALUE};
        String[] due = {"10000", "11000", "11100", "11111"};
        for (int width = 0; width < 4; width++) {
            x.row(width, width, 5);
            for (int i = 0; i < 5; i++) {
                x.write(width, i, numbers[i]);
            }
            CHECK.dueText("cut to WIDTH " + width, numbers(x, width), due[width]);
        }
        x.write(0, 1, -1L);
        x.write(0, 2, 0x100000001L);
        CHECK.dueText("cut to one byte", numbers(x, 0), "11100");
    }

    private static void paste() {
        StitchSays x = plain(6);
        CHECK.due("paste(4, ..)", x.paste(4, 0, 0, 0, 1), -2);
        CHECK.due("paste(-1, ..)", x.paste(-1, 0, 0, 0, 1), -2);
        CHECK.due("paste to 4", x.paste(0, 0, 4, 0, 1), -2);
        CHECK.due("paste to -1", x.paste(0, 0, -1, 0, 1), -2);
        CHECK.due("both have nothing", x.paste(0, 0, 1, 0, 1), -6);
        x.row(0, 1, 6);
        CHECK.due("one has nothing", x.paste(0, 0, 1, 0, 1), -6);
        CHECK.due("one has nothing", x.paste(1, 0, 0, 0, 1), -6);
        x.row(1, 2, 4);
        CHECK.due("not of one WIDTH", x.paste(0, 0, 1, 0, 1), -8);
        CHECK.due("not of one WIDTH, and beyond", x.paste(0, -1, 1, 0, 99), -8);
        x.row(1, 1, 4);
        x.write(0, 1, 1);
        x.write(0, 2, 1);
        x.write(0, 5, 1);
        CHECK.due("beyond the first", x.paste(0, 4, 1, 0, 3), -7);
        CHECK.due("beyond the second", x.paste(0, 0, 1, 2, 3), -7);
        CHECK.due("i below 0", x.paste(0, -1, 1, 0, 1), -7);
        CHECK.due("k below 0", x.paste(0, 0, 1, -1, 1), -7);
        CHECK.due("n below 0", x.paste(0, 0, 1, 0, -1), -7);
        CHECK.due("far beyond", x.paste(0, Integer.MAX_VALUE, 1, 0, Integer.MAX_VALUE), -7);
        CHECK.due("far beyond", x.paste(0, 1, 1, 0, Integer.MAX_VALUE), -7);
        CHECK.due("far beyond", x.paste(0, 0, 1, Integer.MAX_VALUE, 1), -7);
        CHECK.dueText("nothing happens", numbers(x, 1), "000000");
        CHECK.due("none at the ends", x.paste(0, 6, 1, 4, 0), 0);
        CHECK.due("paste", x.paste(0, 1, 1, 0, 2), 0);
        CHECK.dueText("pasted", numbers(x, 1), "110000");
        CHECK.due("paste", x.paste(0, 2, 1, 0, 4), 0);
        CHECK.dueText("pasted", numbers(x, 1), "100100");
        CHECK.dueText("the first stays", numbers(x, 0), "011001");
    }

    private static void pasteWithin() {
        StitchSays x = plain(6);
        x.row(2, 3, 6);
        x.write(2, 0, 1);
        x.write(2, 2, 1);
        CHECK.due("forward over itself", x.paste(2, 0, 2, 1, 5), 0);
        CHECK.dueText("as they were", numbers(x, 2), "110100");
        CHECK.due("backward over itself", x.paste(2, 1, 2, 0, 5), 0);
        CHECK.dueText("as they were", numbers(x, 2), "101000");
    }

    private static void lay() {
        StitchSays x = new StitchSays();
        Check.pattern(x, "wide 5 rows 2;row fkhpm;row kf;");
        x.knit(0, 0);
        x.row(0, 3, 60);
        CHECK.due("all plain as they are", x.lay(0, 0), 0);
        for (int i = 0; i < 60; i++) {
            x.write(0, i, i - 60);
        }
        CHECK.due("all FREE", x.lay(0, 0), 5);
        CHECK.dueText("all FREE", Check.cloth(x, 0), "p.ops/.p.p.");
        CHECK.due("once more", x.lay(0, 0), 0);
        x.row(1, 0, 2);
        x.write(1, 1, 9);
        CHECK.due("as many as it has", x.lay(1, 0), 1);
        CHECK.dueText("as many as it has", Check.cloth(x, 0), "..ops/.p.p.");
        x.row(2, 0, 0);
        CHECK.due("a row of none", x.lay(2, 0), 0);
        CHECK.due("a SLOT without a row", x.lay(3, 0), -6);
        CHECK.due("no such CLOTH", x.lay(0, 1), -6);
        CHECK.due("lay(4, 0)", x.lay(4, 0), -2);
        CHECK.due("lay(-1, 0)", x.lay(-1, 0), -2);
        CHECK.due("lay(0, 4)", x.lay(0, 4), -2);
        CHECK.due("lay(3, -1)", x.lay(3, -1), -2);
    }

    private static void layOverLosses() {
        StitchSays x = new StitchSays();
        Check.pattern(x, "wide 4 rows 1;row fkhm;");
        x.knit(0, 0);
        Check.losses(x, "lose rows 0 to 0;");
        x.lose(0);
        CHECK.due("lost ones are so no more", Check.lay(x, 0, "01"), 2);
        CHECK.dueText("what is not FREE stays lost", Check.cloth(x, 0), ".#o#");
        CHECK.due("lost", x.counts(0, 6), 2);
        CHECK.due("one more", Check.lay(x, 0, "010"), 1);
        CHECK.dueText("one more", Check.cloth(x, 0), ".#o.");
    }
}
