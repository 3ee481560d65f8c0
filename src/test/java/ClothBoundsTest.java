/** Terms V and promises 28 to 33: every bound that a sentence on two CLOTHS and on balls names, on both of its sides. */
public final class ClothBoundsTest {
    private static final Check CHECK = new Check("ClothBoundsTest");
    private static final int[] BESIDE_FOUR = {Integer.MIN_VALUE, -1, 4, Integer.MAX_VALUE};
    private static final int[] SIDES = {1, 2, 3, 15, 16};

    public static void main(String[] args) {
        alike();
        alikeWithLosses();
        same();
        orderOfTheBall();
        endOfTheBall();
        rewindWithoutLosses();
        rewindByHowManyAreLost();
        rewindIntoItself();
        copy();
        turnedOver();
        placesThatAreNotTurned();
        clothsByNumber();
        CHECK.finish();
    }

    private static StitchSays twoCloths(String pattern) {
        StitchSays x = new StitchSays();
        Check.pattern(x, pattern);
        x.knit(0, 0);
        x.knit(1, 0);
        return x;
    }

    private static void losePlace(StitchSays x, int c, int place) {
        Check.losses(x, "moth 99 from " + place + ";");
        x.lose(c);
    }

    // ---- promises 28, 29

    private static void alike() {
        for (int free = 1; free <= 16; free++) {
            StitchSays x = twoCloths("wide " + free + " rows 1;row f;");
            CHECK.due("all alike", x.alike(0, 1), free);
            for (int unlike = 1; unlike <= free; unlike++) {
                x.turn(1, 0, unlike - 1);
                CHECK.due(unlike + " unlike of " + free, x.alike(0, 1), free - unlike);
                CHECK.due("the other way", x.alike(1, 0), free - unlike);
                CHECK.due("with itself", x.alike(1, 1), free);
            }
        }
        CHECK.due("no FREE places", twoCloths("wide 16 rows 16;row kp;").alike(0, 1), 0);
        CHECK.due("256 FREE places", twoCloths("wide 16 rows 16;row fhm;").alike(0, 1), 256);
        CHECK.due("FREE places alone", twoCloths("wide 16 rows 16;row kfp;").alike(0, 1), 80);
    }

    /** "both not lost". */
    private static void alikeWithLosses() {
        String[] stitches = {"..", ".p", "p.", "pp", ".#", "#.", "p#", "#p", "##"};
        for (String pair : stitches) {
            StitchSays x = twoCloths("wide 1 rows 1;row f;");
            for (int c = 0; c < 2; c++) {
                if (pair.charAt(c) == 'p') {
                    x.turn(c, 0, 0);
                } else if (pair.charAt(c) == '#') {
                    losePlace(x, c, 0);
                }
            }
            CHECK.due("alike of " + pair, x.alike(0, 1), pair.equals("..") || pair.equals("pp") ? 1 : 0);
            Check.way(x, 0, "way over f;");
            CHECK.due("same of " + pair, x.same(0, 1, 0), pair.equals("..") || pair.equals("pp") ? 1 : 0);
        }
        StitchSays x = twoCloths("wide 2 rows 1;row fk;");
        losePlace(x, 0, 1);
        CHECK.due("lost, but not FREE", x.alike(0, 1), 1);
    }

    private static void same() {
        for (int free = 1; free <= 16; free++) {
            StitchSays x = twoCloths("wide " + free + " rows 1;row f;");
            Check.way(x, 0, "way over f;");
            Check.way(x, 5, "way over f group 2;");
            CHECK.due("all BITS", x.same(0, 1, 0), free);
            CHECK.due("all BITS of two", x.same(0, 1, 5), free / 2);
            for (int unlike = 1; unlike <= free; unlike++) {
                x.turn(1, 0, unlike - 1);
                CHECK.due(unlike + " unlike of " + free, x.same(0, 1, 0), free - unlike);
                // In a GROUP of two a second one turned over makes it tell the same again.
                CHECK.due(unlike + " unlike of " + free + " by two", x.same(0, 1, 5),
                    free / 2 - (unlike % 2 == 1 && unlike < free ? 1 : 0));
            }
        }
        StitchSays x = twoCloths("wide 5 rows 1;row h;");
        Check.way(x, 3, "way over f;");
        CHECK.due("a WAY without BITS", x.same(0, 1, 3), 0);
        for (int k = 0; k < 6; k++) {
            CHECK.due("same by WAY " + k, x.same(0, 1, k), k == 3 ? 0 : -6);
        }
        CHECK.due("same by WAY 6", x.same(0, 1, 6), -2);
        CHECK.due("same by WAY -1", x.same(0, 1, -1), -2);
    }

    // ---- V: the ball; promise 30

    /** One purl in all places after the other: where the ball has it. */
    private static void orderOfTheBall() {
        int[] sides = {1, 2, 3, 4, 5};
        for (int wide : sides) {
            for (int rows : sides) {
                StitchSays x = twoCloths("wide " + wide + " rows " + rows + ";row f;");
                int i = 0;
                for (int row = rows - 1; row >= 0; row--) {
                    for (int n = 0; n < wide; n++) {
                        int column = row % 2 == 1 ? n : wide - 1 - n;
                        x.turn(0, row, column);
                        CHECK.due("stitch " + i + " of " + wide + " by " + rows, x.ball(0, i), 1);
                        CHECK.due("the one behind", x.ball(0, i + 1), i + 1 < wide * rows ? 0 : -1);
                        CHECK.due("the one ahead", x.ball(0, i - 1), i > 0 ? 0 : -1);
                        x.turn(0, row, column);
                        i++;
                    }
                }
            }
        }
        // Of 256: the first comes from row 15, column 0, the last from row 0, column 0.
        StitchSays x = twoCloths("wide 16 rows 16;row f;");
        x.turn(0, 15, 0);
        x.turn(0, 0, 0);
        CHECK.due("ball(0, 0)", x.ball(0, 0), 1);
        CHECK.due("ball(0, 1)", x.ball(0, 1), 0);
        CHECK.due("ball(0, 254)", x.ball(0, 254), 0);
        CHECK.due("ball(0, 255)", x.ball(0, 255), 1);
        CHECK.due("ball(0, 256)", x.ball(0, 256), -1);
        // With 15 rows the last one is of an even number: from its last column on.
        x = twoCloths("wide 16 rows 15;row f;");
        x.turn(0, 14, 15);
        CHECK.due("ball(0, 0)", x.ball(0, 0), 1);
        CHECK.due("ball(0, 239)", x.ball(0, 239), 0);
        CHECK.due("ball(0, 240)", x.ball(0, 240), -1);
    }

    private static void endOfTheBall() {
        for (int lost = 0; lost <= 16; lost++) {
            StitchSays x = twoCloths("wide 16 rows 1;row fhmkp;");
            if (lost > 0) {
                Check.losses(x, "lose columns 0 to " + (lost - 1) + ";");
                x.lose(0);
            }
            int left = 16 - lost;
            CHECK.due("the last of " + left, x.ball(0, left - 1) >= 0 ? 1 : 0, left > 0 ? 1 : 0);
            CHECK.due("behind the last of " + left, x.ball(0, left), -1);
            CHECK.due("ball(0, -1)", x.ball(0, -1), -1);
            CHECK.due("ball(0, least)", x.ball(0, Integer.MIN_VALUE), -1);
            CHECK.due("ball(0, most)", x.ball(0, Integer.MAX_VALUE), -1);
        }
        // All kinds of stitches are in it, in places that are not FREE too.
        StitchSays x = new StitchSays();
        Check.pattern(x, "wide 5 rows 1;row kpfhm;");
        Check.hand(x, "hand f 100 h 100 m 100;");
        x.knit(2, 0);
        int[] due = {3, 2, 1, 1, 0, -1};
        for (int i = 0; i < due.length; i++) {
            CHECK.due("ball(2, " + i + ")", x.ball(2, i), due[i]);
        }
    }

    // ---- V: knitted back; promise 31

    private static void rewindWithoutLosses() {
        for (int wide : SIDES) {
            for (int rows : SIDES) {
                StitchSays x = twoCloths("wide " + wide + " rows " + rows + ";row fhmkp;row mf;row pfh;");
                Check.hand(x, "hand f 50 h 50 m 50;");
                x.knit(0, wide + rows);
                String cloth = Check.cloth(x, 0);
                CHECK.due("rewind of " + wide + " by " + rows, x.rewind(0, 1), 0);
                CHECK.dueText("knitted back", Check.cloth(x, 1), cloth);
                CHECK.due("into itself", x.rewind(1, 1), 0);
                CHECK.dueText("knitted back", Check.cloth(x, 1), cloth);
            }
        }
    }

    /** So many lost: so many places at the end of the knitting are lost, whichever they were. */
    private static void rewindByHowManyAreLost() {
        for (int lost = 0; lost <= 9; lost++) {
            for (int from = 0; from + lost <= 9; from++) {
                StitchSays x = twoCloths("wide 3 rows 3;row f;");
                StringBuilder losses = new StringBuilder();
                for (int i = 0; i < lost; i++) {
                    losses.append("moth 99 from ").append(from + i).append(";");
                }
                Check.losses(x, losses.toString());
                CHECK.due("lost", x.lose(0), lost);
                String before = Check.cloth(x, 0);
                int answer = x.rewind(0, 1);
                String after = Check.cloth(x, 1);
                int otherwise = 0;
                for (int i = 0; i < after.length(); i++) {
                    otherwise += before.charAt(i) == after.charAt(i) ? 0 : 1;
                }
                CHECK.due("otherwise", answer, otherwise);
                CHECK.due("lost behind it", x.counts(1, 6), lost);
                // Row 1 is knitted from its last column on.
                int[] order = {0, 1, 2, 5, 4, 3, 6, 7, 8};
                for (int n = 0; n < 9; n++) {
                    CHECK.due(n + "-th knitted of " + (9 - lost), x.at(1, order[n] / 3, order[n] % 3), n < 9 - lost ? 0 : 4);
                }
                CHECK.dueText("CLOTH 0 stays", Check.cloth(x, 0), before);
            }
        }
    }

    private static void rewindIntoItself() {
        StitchSays x = twoCloths("wide 4 rows 1;row f;");
        Check.lay(x, 0, "1011");
        losePlace(x, 0, 0);
        CHECK.due("than in c as it was", x.rewind(0, 0), 3);
        CHECK.dueText("moved up", Check.cloth(x, 0), ".pp#");
        CHECK.due("and no more", x.rewind(0, 0), 0);
        // Of a CLOTH that is all lost nothing is left, and all is as it was.
        Check.losses(x, "lose rows 0 to 0;");
        x.lose(0);
        CHECK.due("all lost", x.rewind(0, 1), 0);
        CHECK.dueText("all lost", Check.cloth(x, 1), "####");
        CHECK.due("all lost, into itself", x.rewind(1, 1), 0);
    }

    // ---- promises 32, 33

    private static void copy() {
        for (int c = 0; c < 4; c++) {
            for (int d = 0; d < 4; d++) {
                StitchSays x = new StitchSays();
                Check.pattern(x, "wide 3 rows 1;row fkp;");
                CHECK.due("none there: copy(" + c + ", " + d + ")", x.copy(c, d), -6);
                CHECK.due("CLOTHS", x.count(6), 0);
                x.knit(c, 0);
                x.turn(c, 0, 0);
                losePlace(x, c, 1);
                CHECK.due("copy(" + c + ", " + d + ")", x.copy(c, d), 0);
                CHECK.due("CLOTHS", x.count(6), c == d ? 1 : 2);
                CHECK.dueText("CLOTH " + d, Check.cloth(x, d), "p#p");
                CHECK.dueText("CLOTH " + c, Check.cloth(x, c), "p#p");
                // They are two from then on.
                x.turn(d, 0, 0);
                CHECK.dueText("CLOTH " + c, Check.cloth(x, c), c == d ? ".#p" : "p#p");
            }
        }
    }

    private static void turnedOver() {
        StitchSays x = twoCloths("wide 16 rows 16;row fhmkp;");
        int[] sides = {0, 1, 2, 3, 4, 14, 15};
        for (int row : new int[] {0, 15}) {
            for (int column : sides) {
                int sort = x.sort(row, column);
                int due = sort >= 2 ? sort - 1 : -2;
                CHECK.due("turn(0, " + row + ", " + column + ")", x.turn(0, row, column), due);
                CHECK.due("at", x.at(0, row, column), due == -2 ? sort : due);
                CHECK.due("turn again", x.turn(0, row, column), due == -2 ? -2 : 0);
                CHECK.due("at", x.at(0, row, column), due == -2 ? sort : 0);
            }
        }
        CHECK.due("CLOTH 1 stays", x.alike(0, 1), x.count(2));
    }

    private static void placesThatAreNotTurned() {
        StitchSays x = twoCloths("wide 5 rows 3;row fhmkp;");
        Check.losses(x, "lose rows 1 to 1;");
        x.lose(0);
        for (int column = 0; column < 5; column++) {
            CHECK.due("lost: turn(0, 1, " + column + ")", x.turn(0, 1, column), column < 3 ? -5 : -2);
            CHECK.due("it stays lost", x.at(0, 1, column), 4);
            CHECK.due("no CLOTH: turn(2, 1, " + column + ")", x.turn(2, 1, column), column < 3 ? -6 : -2);
            CHECK.due("not lost in CLOTH 1", x.turn(1, 1, column), column < 3 ? column + 1 : -2);
        }
        for (int n : new int[] {Integer.MIN_VALUE, -1, Integer.MAX_VALUE}) {
            CHECK.due("turn(0, " + n + ", 0)", x.turn(0, n, 0), -2);
            CHECK.due("turn(0, 0, " + n + ")", x.turn(0, 0, n), -2);
        }
        CHECK.due("turn(0, 3, 0)", x.turn(0, 3, 0), -2);
        CHECK.due("turn(0, 0, 5)", x.turn(0, 0, 5), -2);
        CHECK.due("turn(0, 2, 2)", x.turn(0, 2, 2), 3);
        for (int c : BESIDE_FOUR) {
            CHECK.due("turn(" + c + ", 0, 0)", x.turn(c, 0, 0), -2);
        }
    }

    /** Which CLOTHS are there decides between -2, -6 and an answer, for each of two. */
    private static void clothsByNumber() {
        StitchSays x = new StitchSays();
        Check.pattern(x, "wide 2 rows 1;row f;");
        Check.way(x, 0, "way over f;");
        x.knit(0, 0);
        x.knit(3, 0);
        for (int c = -1; c <= 4; c++) {
            for (int d = -1; d <= 4; d++) {
                boolean numbers = c >= 0 && c <= 3 && d >= 0 && d <= 3;
                boolean there = (c == 0 || c == 3) && (d == 0 || d == 3);
                int refused = !numbers ? -2 : !there ? -6 : 0;
                CHECK.due("alike(" + c + ", " + d + ")", x.alike(c, d), refused == 0 ? 2 : refused);
                CHECK.due("same(" + c + ", " + d + ", 0)", x.same(c, d, 0), refused == 0 ? 2 : refused);
                CHECK.due("same(" + c + ", " + d + ", 1)", x.same(c, d, 1), refused == 0 ? -6 : refused);
                CHECK.due("same(" + c + ", " + d + ", 6)", x.same(c, d, 6), -2);
                CHECK.due("rewind(" + c + ", " + d + ")", x.rewind(c, d), refused);
            }
            CHECK.due("ball(" + c + ", 1)", x.ball(c, 1), c == -1 || c == 4 ? -2 : c == 0 || c == 3 ? 0 : -6);
        }
        CHECK.due("CLOTHS", x.count(6), 2);
    }
}
