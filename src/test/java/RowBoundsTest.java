/** Promises 35 to 41, and SLOTS of Terms I: every bound that a sentence names, on both of its sides. */
public final class RowBoundsTest {
    private static final Check CHECK = new Check("RowBoundsTest");
    private static final int LEAST = Integer.MIN_VALUE;
    private static final int MOST = Integer.MAX_VALUE;

    public static void main(String[] args) {
        countsOfNothing();
        countsOfAsManyAsThereMayBe();
        imagesByNumber();
        imagesOfNothing();
        imagesOfAll();
        imagesStayAsTheyAre();
        rowsByNumber();
        rowsInPlaceOfOthers();
        numbersOfRows();
        cutToWidths();
        pasteAll();
        pasteOverItself();
        pasteBounds();
        layAsManyAs();
        layOverWhatIsLost();
        layBySorts();
        CHECK.finish();
    }

    // ---- promise 35

    private static void countsOfNothing() {
        StitchSays x = new StitchSays();
        for (int what = 0; what <= 9; what++) {
            CHECK.due("count(" + what + ")", x.count(what), 0);
        }
        for (int what : new int[] {LEAST, -1, 10, MOST}) {
            CHECK.due("count(" + what + ")", x.count(what), -1);
        }
    }

    private static void countsOfAsManyAsThereMayBe() {
        StitchSays x = new StitchSays();
        Check.pattern(x, "wide 16 rows 16;row f;");
        CHECK.due("rows", x.count(0), 16);
        CHECK.due("columns", x.count(1), 16);
        CHECK.due("FREE places", x.count(2), 256);
        for (int k = 0; k < 6; k++) {
            CHECK.due("WAYS", x.count(3), k);
            Check.way(x, k, "way over f;");
        }
        CHECK.due("WAYS", x.count(3), 6);
        Check.watcher(x, "stop if 1 same 2;".repeat(12));
        CHECK.due("LINES of the WATCHER", x.count(4), 12);
        Check.losses(x, "wash;".repeat(12));
        CHECK.due("LINES of LOSSES", x.count(5), 12);
        for (int c = 0; c < 4; c++) {
            CHECK.due("CLOTHS", x.count(6), c);
            x.knit(c, 0);
        }
        CHECK.due("CLOTHS", x.count(6), 4);
        Check.put(x, 0, 0, "z".repeat(50));
        x.read(0, 0);
        CHECK.due("LETTERS", x.count(8), 50);
        for (int slot = 0; slot < 4; slot++) {
            CHECK.due("SLOTS", x.count(9), slot);
            x.row(slot, 0, 0);
        }
        CHECK.due("SLOTS", x.count(9), 4);
        for (int n = 0; n < 30; n++) {
            CHECK.due("bytes", x.count(7), 20 * n);
            x.feed(0, 0, 0, 0, 0);
        }
        CHECK.due("bytes", x.count(7), 600);
        CHECK.due("rows and columns are two", Check.pattern(x, "wide 3 rows 5;row fk;"), 10);
        CHECK.due("rows", x.count(0), 5);
        CHECK.due("columns", x.count(1), 3);
        CHECK.due("FREE places", x.count(2), 10);
        CHECK.due("CLOTHS", x.count(6), 0);
        CHECK.due("LETTERS stay", x.count(8), 50);
    }

    // ---- promises 36, 37

    private static void imagesByNumber() {
        for (int k = 0; k < 3; k++) {
            StitchSays x = new StitchSays();
            for (int other = 0; other < 3; other++) {
                CHECK.due("back(" + other + ") of nothing", x.back(other), -6);
            }
            CHECK.due("keep(" + k + ")", x.keep(k), 0);
            for (int other = 0; other < 3; other++) {
                CHECK.due("back(" + other + ")", x.back(other), other == k ? 0 : -6);
            }
        }
        StitchSays x = new StitchSays();
        for (int k : new int[] {LEAST, -1, 3, MOST}) {
            CHECK.due("keep(" + k + ")", x.keep(k), -2);
            CHECK.due("back(" + k + ")", x.back(k), -2);
        }
    }

    /** What was not there when it was kept is not there again. */
    private static void imagesOfNothing() {
        StitchSays x = new StitchSays();
        x.keep(1);
        Check.pattern(x, "wide 10 rows 1;row f;");
        Check.hand(x, "hand f 100 h 0 m 0;");
        Check.way(x, 0, "way over f;");
        Check.watcher(x, "stop if 1 same 1;");
        Check.losses(x, "lose rows 0 to 0;");
        x.knit(0, 0);
        Check.put(x, 0, 0, "a");
        x.read(0, 0);
        x.row(0, 0, 1);
        CHECK.due("back(1)", x.back(1), 0);
        int[] due = {0, 0, 0, 0, 0, 0, 0, 0, 1, 1};
        for (int what = 0; what <= 9; what++) {
            CHECK.due("count(" + what + ")", x.count(what), due[what]);
        }
        CHECK.due("no PATTERN", x.knit(0, 0), -6);
        CHECK.due("no WAY", x.room(0), -6);
        CHECK.due("no place", x.sort(0, 0), -1);
        Check.pattern(x, "wide 10 rows 1;row f;");
        CHECK.due("no HAND", x.knit(0, 0), 0);
        CHECK.due("no WATCHER", x.stops(0), -1);
        CHECK.due("no LOSSES", x.lose(0), 0);
    }

    private static StitchSays made() {
        StitchSays x = new StitchSays();
        Check.pattern(x, "wide 16 rows 16;row f;row h;row m;row k;row p;row f;row f;row f;");
        Check.hand(x, "hand f 30 h 60 m 90;");
        for (int k = 0; k < 6; k++) {
            Check.way(x, k, "way over fhm step " + (k + 1) + (k % 2 == 0 ? " group 2" : " guard 3") + (k > 2 ? " turn" : "")
                + (k > 3 ? " top" : "") + ";");
        }
        Check.watcher(x, "stop if 1 same 2;".repeat(11) + "stop if runs more 0;");
        Check.losses(x, "wash;".repeat(11) + "moth 9 from 255;");
        for (int c = 0; c < 4; c++) {
            x.knit(c, 1000 + c);
        }
        return x;
    }

    /** As much as an IMAGE can have. */
    private static String seen(StitchSays x) {
        StringBuilder text = new StringBuilder();
        for (int what = 0; what <= 6; what++) {
            text.append(x.count(what)).append(' ');
        }
        for (int k = 0; k < 6; k++) {
            text.append(x.room(k)).append(' ').append(x.place(k, 7)).append(' ');
        }
        for (int c = 0; c < 4; c++) {
            text.append(x.stops(c)).append(' ').append(x.counts(c, 3)).append(' ').append(x.ball(c, 99)).append(' ');
        }
        return text.append(x.odds(1, 50)).append(' ').append(x.sort(15, 15)).append(x.sort(1, 0)).append(x.sort(2, 0)).toString();
    }

    private static void imagesOfAll() {
        String due = seen(made());
        String dueCloth = Check.cloth(made(), 3);
        for (int k = 0; k < 3; k++) {
            StitchSays x = made();
            x.keep(k);
            CHECK.dueText("behind keep", seen(x), due);
            Check.pattern(x, "wide 1 rows 1;row k;");
            Check.hand(x, "hand f 0 h 0 m 0;");
            for (int way = 0; way < 6; way++) {
                Check.way(x, way, "way over h;");
            }
            Check.watcher(x, "");
            Check.losses(x, "");
            CHECK.due("back(" + k + ")", x.back(k), 0);
            CHECK.dueText("behind back", seen(x), due);
            CHECK.dueText("CLOTH 3", Check.cloth(x, 3), dueCloth);
            CHECK.due("LOSSES", x.lose(2), 1);
            CHECK.due("the last place", x.at(2, 15, 15), 4);
        }
    }

    private static void imagesStayAsTheyAre() {
        StitchSays x = new StitchSays();
        Check.pattern(x, "wide 3 rows 1;row f;");
        x.knit(0, 0);
        for (int k = 0; k < 3; k++) {
            x.turn(0, 0, k);
            x.keep(k);
        }
        String[] due = {"p..", "pp.", "ppp"};
        for (int round = 0; round < 2; round++) {
            for (int k = 2; k >= 0; k--) {
                CHECK.due("back(" + k + ")", x.back(k), 0);
                CHECK.dueText("IMAGE " + k, Check.cloth(x, 0), due[k]);
                // What comes behind back is not in the IMAGE.
                x.turn(0, 0, 0);
                Check.losses(x, "lose rows 0 to 0;");
                x.lose(0);
                Check.pattern(x, "wide 1 rows 1;row k;");
            }
        }
        x.back(0);
        x.keep(2);
        x.back(1);
        x.back(2);
        CHECK.dueText("an IMAGE of an IMAGE", Check.cloth(x, 0), "p..");
        x.back(0);
        CHECK.dueText("the first one", Check.cloth(x, 0), "p..");
        CHECK.due("keep(-1) keeps nothing", x.keep(-1), -2);
        x.turn(0, 0, 0);
        CHECK.due("keep(3) keeps nothing", x.keep(3), -2);
        x.back(0);
        CHECK.dueText("the first one", Check.cloth(x, 0), "p..");
    }

    // ---- promises 38, 39

    /** CLOTH 0 has 256 FREE places, all plain. */
    private static StitchSays plain() {
        StitchSays x = new StitchSays();
        Check.pattern(x, "wide 16 rows 16;row f;");
        x.knit(0, 0);
        return x;
    }

    /** The first n numbers of a SLOT's row as CLOTH 0 shows them: 1 where they are not 0. */
    private static String shown(StitchSays x, int slot, int n) {
        x.knit(0, 0);
        x.lay(slot, 0);
        StringBuilder text = new StringBuilder();
        for (int i = 0; i < n; i++) {
            text.append(x.at(0, i / 16, i % 16));
        }
        return text.toString();
    }

    private static void rowsByNumber() {
        for (int slot = -1; slot <= 4; slot++) {
            for (int width = -1; width <= 4; width++) {
                boolean there = slot >= 0 && slot <= 3 && width >= 0 && width <= 3;
                for (int n : new int[] {LEAST, -1, 0, 1, 59, 60, 61, MOST}) {
                    StitchSays x = new StitchSays();
                    int due = !there || n > 60 ? -2 : n < 0 ? -3 : 0;
                    CHECK.due("row(" + slot + ", " + width + ", " + n + ")", x.row(slot, width, n), due);
                    CHECK.due("SLOTS", x.count(9), due == 0 ? 1 : 0);
                    CHECK.due("its last number", x.write(slot, n - 1, 1), slot < 0 || slot > 3 ? -2 : due != 0 ? -6 : n == 0 ? -7 : 0);
                    CHECK.due("none behind it", x.write(slot, n, 1), slot < 0 || slot > 3 ? -2 : due != 0 ? -6 : -7);
                    CHECK.due("none ahead of all", x.write(slot, -1, 1), slot < 0 || slot > 3 ? -2 : due != 0 ? -6 : -7);
                }
            }
        }
    }

    private static void rowsInPlaceOfOthers() {
        StitchSays x = plain();
        for (int slot = 0; slot < 4; slot++) {
            for (int width = 0; width < 4; width++) {
                CHECK.due("a row of 60", x.row(slot, width, 60), 0);
                CHECK.dueText("all 0", shown(x, slot, 61), "0".repeat(61));
                for (int i : new int[] {0, 1, 58, 59}) {
                    CHECK.due("write " + i, x.write(slot, i, 1), 0);
                }
                CHECK.due("row below 0", x.row(slot, width, -1), -3);
                CHECK.due("row above 60", x.row(slot, width, 61), -2);
                CHECK.dueText("it stays", shown(x, slot, 61), "11" + "0".repeat(56) + "110");
            }
            CHECK.due("a row of none", x.row(slot, 0, 0), 0);
            CHECK.due("SLOTS", x.count(9), slot + 1);
            CHECK.due("it has no number", x.write(slot, 0, 1), -7);
        }
        x.row(0, 0, 2);
        x.write(0, 1, 1);
        x.row(0, 0, 1);
        x.row(0, 0, 3);
        CHECK.dueText("what was behind the end is 0", shown(x, 0, 3), "000");
    }

    private static void numbersOfRows() {
        for (int n = 0; n <= 60; n++) {
            StitchSays x = plain();
            x.row(2, 3, n);
            for (int i : new int[] {LEAST, -1, n, n + 1, 60, 61, MOST}) {
                CHECK.due("write(2, " + i + ", 1) of " + n, x.write(2, i, 1), i >= 0 && i < n ? 0 : -7);
            }
            CHECK.dueText("nothing was written", shown(x, 2, 62), "0".repeat(62));
            if (n > 0) {
                CHECK.due("the last", x.write(2, n - 1, -1), 0);
                CHECK.dueText("the last", shown(x, 2, n + 1), "0".repeat(n - 1) + "10");
                CHECK.due("the first", x.write(2, 0, -1), 0);
                CHECK.dueText("the first", shown(x, 2, n + 1), (n == 1 ? "1" : "1" + "0".repeat(n - 2) + "1") + "0");
                CHECK.due("0 again", x.write(2, 0, 0), 0);
                CHECK.dueText("0 again", shown(x, 2, 1), "0");
            }
        }
    }

    /** Cut to 1, 2, 4 or 8 bytes: each single bit of a number is in it or not. */
    private static void cutToWidths() {
        for (int width = 0; width < 4; width++) {
            int bits = 8 << width;
            StitchSays x = plain();
            x.row(1, width, 60);
            for (int bit = 0; bit < 60; bit++) {
                CHECK.due("write", x.write(1, bit, 1L << bit), 0);
            }
            CHECK.dueText("bits 0 to 59 in WIDTH " + width, shown(x, 1, 60),
                "1".repeat(Math.min(60, bits)) + "0".repeat(60 - Math.min(60, bits)));
            x.row(1, width, 12);
            long[] numbers = {1L << 60, 1L << 62, Long.MIN_VALUE, Long.MAX_VALUE, -1L, -256L, -65_536L, -4_294_967_296L,
                255L, 65_280L, 0xffff_0000L, 0L};
            StringBuilder due = new StringBuilder();
            long mask = bits == 64 ? -1L : (1L << bits) - 1;
            for (int i = 0; i < numbers.length; i++) {
                x.write(1, i, numbers[i]);
                due.append((numbers[i] & mask) == 0 ? '0' : '1');
            }
            CHECK.dueText("numbers in WIDTH " + width, shown(x, 1, 12), due.toString());
        }
    }

    // ---- promise 40

    private static void pasteAll() {
        for (int width = 0; width < 4; width++) {
            for (int slot = 0; slot < 4; slot++) {
                for (int to = 0; to < 4; to++) {
                    StitchSays x = plain();
                    x.row(to, width, 60);
                    x.row(slot, width, 60);
                    for (int i = 0; i < 60; i += 7) {
                        x.write(slot, i, i + 1);
                    }
                    String due = shown(x, slot, 60);
                    CHECK.due("all 60", x.paste(slot, 0, to, 0, 60), 0);
                    CHECK.dueText("as they were", shown(x, to, 60), due);
                    CHECK.dueText("they stay", shown(x, slot, 60), due);
                    CHECK.due("61", x.paste(slot, 0, to, 0, 61), -7);
                    CHECK.due("the last one to the first", x.paste(slot, 59, to, 0, 1), 0);
                    CHECK.dueText("the last one", shown(x, to, 60), "0" + due.substring(1));
                }
            }
        }
    }

    /** Every stretch of a row of six, put to every place: as they were ahead of it. */
    private static void pasteOverItself() {
        String row = "101100";
        for (int i = -1; i <= 7; i++) {
            for (int k = -1; k <= 7; k++) {
                for (int n = -1; n <= 7; n++) {
                    StitchSays x = plain();
                    x.row(2, 0, 6);
                    for (int j = 0; j < 6; j++) {
                        x.write(2, j, row.charAt(j) - '0');
                    }
                    boolean within = i >= 0 && k >= 0 && n >= 0 && i + n <= 6 && k + n <= 6;
                    String what = "paste(2, " + i + ", 2, " + k + ", " + n + ")";
                    CHECK.due(what, x.paste(2, i, 2, k, n), within ? 0 : -7);
                    String due = within ? row.substring(0, k) + row.substring(i, i + n) + row.substring(k + n) : row;
                    CHECK.dueText(what, shown(x, 2, 6), due);
                }
            }
        }
    }

    /** From a row of three to one of five, and back. */
    private static void pasteBounds() {
        for (int i = -1; i <= 6; i++) {
            for (int k = -1; k <= 6; k++) {
                for (int n = -1; n <= 6; n++) {
                    StitchSays x = plain();
                    x.row(0, 1, 3);
                    x.row(3, 1, 5);
                    for (int j = 0; j < 3; j++) {
                        x.write(0, j, 1);
                    }
                    boolean within = i >= 0 && k >= 0 && n >= 0 && i + n <= 3 && k + n <= 5;
                    String what = "paste(0, " + i + ", 3, " + k + ", " + n + ")";
                    CHECK.due(what, x.paste(0, i, 3, k, n), within ? 0 : -7);
                    String due = within ? "0".repeat(k) + "1".repeat(n) + "0".repeat(5 - k - n) : "00000";
                    CHECK.dueText(what, shown(x, 3, 5), due);
                    boolean back = i >= 0 && k >= 0 && n >= 0 && i + n <= 5 && k + n <= 3;
                    CHECK.due("back: " + what, x.paste(3, i, 0, k, n), back ? 0 : -7);
                }
            }
        }
        int[] far = {LEAST, -1, 0, 3, 5, MOST - 2, MOST};
        for (int i : far) {
            for (int k : far) {
                for (int n : far) {
                    StitchSays x = new StitchSays();
                    x.row(0, 1, 3);
                    x.row(3, 1, 5);
                    boolean within = i >= 0 && k >= 0 && n >= 0 && (long) i + n <= 3 && (long) k + n <= 5;
                    CHECK.due("paste(0, " + i + ", 3, " + k + ", " + n + ")", x.paste(0, i, 3, k, n), within ? 0 : -7);
                }
            }
        }
        for (int width = 0; width < 4; width++) {
            for (int other = 0; other < 4; other++) {
                StitchSays x = new StitchSays();
                x.row(0, width, 2);
                x.row(1, other, 2);
                CHECK.due("WIDTHS " + width + ", " + other, x.paste(0, 0, 1, 0, 2), width == other ? 0 : -8);
                CHECK.due("beyond, too", x.paste(0, 0, 1, 0, 3), width == other ? -7 : -8);
                CHECK.due("one has nothing", x.paste(0, 0, 2, 0, 3), -6);
                CHECK.due("the other has nothing", x.paste(2, 0, 0, 0, 3), -6);
                CHECK.due("no such SLOT, and one has nothing", x.paste(2, 0, 4, 0, 3), -2);
            }
        }
    }

    // ---- promise 41

    /** As many as the row has, or as there are FREE places. */
    private static void layAsManyAs() {
        for (int n = 0; n <= 60; n += n < 20 ? 1 : 8) {
            for (int wide = 1; wide <= 16; wide += 5) {
                for (int rows = 1; rows <= 4; rows++) {
                    StitchSays x = new StitchSays();
                    Check.pattern(x, "wide " + wide + " rows " + rows + ";row fk;");
                    x.knit(1, 0);
                    x.row(0, 2, n);
                    for (int i = 0; i < n; i++) {
                        x.write(0, i, -1 - i);
                    }
                    int due = Math.min(n, x.count(2));
                    String what = n + " over " + x.count(2);
                    CHECK.due(what, x.lay(0, 1), due);
                    CHECK.due("purls: " + what, x.counts(1, 0), due);
                    CHECK.due("once more: " + what, x.lay(0, 1), 0);
                    x.row(0, 2, n);
                    CHECK.due("plain again: " + what, x.lay(0, 1), due);
                    CHECK.due("no purls: " + what, x.counts(1, 0), 0);
                }
            }
        }
        StitchSays x = new StitchSays();
        Check.pattern(x, "wide 16 rows 16;row k;");
        x.knit(0, 0);
        x.row(0, 0, 60);
        x.write(0, 0, 1);
        CHECK.due("no FREE places", x.lay(0, 0), 0);
    }

    /** "lost ones are so no more": each lost one is a change, whatever it becomes. */
    private static void layOverWhatIsLost() {
        for (int n = 0; n <= 5; n++) {
            for (int value = 0; value <= 1; value++) {
                StitchSays x = new StitchSays();
                Check.pattern(x, "wide 6 rows 1;row ffffkf;");
                x.knit(0, 0);
                Check.losses(x, "lose rows 0 to 0;");
                x.lose(0);
                CHECK.due(n + " of five lost", Check.lay(x, 0, ("" + value).repeat(n)), n);
                CHECK.due("lost then", x.counts(0, 6), 6 - n);
                CHECK.due("purls then", x.counts(0, 0), value * n);
                CHECK.due("k stays lost", x.at(0, 0, 4), 4);
                CHECK.due("the last one", x.at(0, 0, 5), n == 5 ? value : 4);
            }
        }
    }

    private static void layBySorts() {
        for (int slot = 0; slot < 4; slot++) {
            for (int c = 0; c < 4; c++) {
                StitchSays x = new StitchSays();
                Check.pattern(x, "wide 5 rows 2;row fhmkp;");
                CHECK.due("neither", x.lay(slot, c), -6);
                x.row(slot, slot, 6);
                CHECK.due("no CLOTH", x.lay(slot, c), -6);
                x.knit(c, 0);
                for (int i = 0; i < 6; i++) {
                    x.write(slot, i, 1);
                }
                CHECK.due("lay(" + slot + ", " + c + ")", x.lay(slot, c), 6);
                CHECK.dueText("by sorts", Check.cloth(x, c), "pos.p/pos.p");
                x.write(slot, 2, 0);
                x.write(slot, 3, 0);
                CHECK.due("two are changed", x.lay(slot, c), 2);
                CHECK.dueText("by rows", Check.cloth(x, c), "po..p/.os.p");
                for (int other = 0; other < 4; other++) {
                    CHECK.due("another SLOT", x.lay(other, c), other == slot ? 0 : -6);
                    CHECK.due("another CLOTH", x.lay(slot, other), other == c ? 0 : -6);
                }
            }
        }
        StitchSays x = plain();
        x.row(0, 0, 1);
        for (int n : new int[] {LEAST, -1, 4, MOST}) {
            CHECK.due("lay(" + n + ", 0)", x.lay(n, 0), -2);
            CHECK.due("lay(0, " + n + ")", x.lay(0, n), -2);
            CHECK.due("lay(1, " + n + ")", x.lay(1, n), -2);
        }
    }
}
