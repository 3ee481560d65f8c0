/** Promises 28 to 33: alike, same, ball, rewind, copy, turn. */
public final class TwoClothsTest {
    private static final Check CHECK = new Check("TwoClothsTest");

    public static void main(String[] args) {
        alike();
        same();
        ball();
        rewind();
        rewoundIntoOtherSorts();
        copy();
        turn();
        wrongNumbers();
        CHECK.finish();
    }

    private static StitchSays twoCloths(String pattern) {
        StitchSays x = new StitchSays();
        Check.pattern(x, pattern);
        x.knit(0, 0);
        x.knit(1, 0);
        return x;
    }

    private static void alike() {
        StitchSays x = twoCloths("wide 5 rows 2;row fhmkp;");
        CHECK.due("FREE places alone", x.alike(0, 1), 6);
        Check.lay(x, 0, "110");
        CHECK.due("two are unlike", x.alike(0, 1), 4);
        CHECK.due("the other way", x.alike(1, 0), 4);
        Check.lay(x, 1, "100");
        CHECK.due("one is unlike", x.alike(0, 1), 5);
        CHECK.due("with itself", x.alike(0, 0), 6);
        Check.losses(x, "lose columns 0 to 0;");
        x.lose(0);
        CHECK.due("lost in one", x.alike(0, 1), 3);
        x.lose(1);
        CHECK.due("lost in both", x.alike(0, 1), 3);
        CHECK.due("with itself", x.alike(0, 0), 4);
    }

    private static void same() {
        StitchSays x = twoCloths("wide 8 rows 1;row f;");
        Check.way(x, 0, "way over f;");
        Check.way(x, 1, "way over f group 2;");
        Check.way(x, 2, "way over f guard 3;");
        CHECK.due("all", x.same(0, 1, 0), 8);
        CHECK.due("all GROUPS", x.same(0, 1, 1), 4);
        CHECK.due("all of three", x.same(0, 1, 2), 2);
        Check.lay(x, 0, "11010000");
        CHECK.due("three are unlike", x.same(0, 1, 0), 5);
        CHECK.due("one GROUP is unlike", x.same(0, 1, 1), 3);
        CHECK.due("one of three is unlike", x.same(0, 1, 2), 1);
        CHECK.due("one CLOTH", x.same(0, 0, 2), 2);
        Check.losses(x, "lose columns 5 to 6;");
        x.lose(1);
        CHECK.due("not told in one", x.same(0, 1, 0), 3);
        CHECK.due("not told in one", x.same(0, 1, 1), 1);
        x.lose(0);
        CHECK.due("not told in both", x.same(0, 1, 0), 3);
        CHECK.due("not told in both", x.same(0, 0, 0), 6);
    }

    private static void dueBall(StitchSays x, int c, String due) {
        StringBuilder got = new StringBuilder();
        for (int i = 0; i < due.length(); i++) {
            int stitch = x.ball(c, i);
            got.append(stitch < 0 ? '?' : ".pos#".charAt(stitch));
        }
        CHECK.dueText("the ball", got.toString(), due);
        CHECK.due("behind its end", x.ball(c, due.length()), -1);
        CHECK.due("ball(-1)", x.ball(c, -1), -1);
    }

    private static void ball() {
        StitchSays x = twoCloths("wide 4 rows 3;row fhmp;row ffff;");
        Check.lay(x, 0, "1110001011");
        CHECK.dueText("the CLOTH", Check.cloth(x, 0), "posp/...p/.osp");
        dueBall(x, 0, "pso." + "...p" + "psop");
        Check.losses(x, "moth 5 from 3;");
        x.lose(0);
        CHECK.dueText("the CLOTH", Check.cloth(x, 0), "pos#/...p/#osp");
        dueBall(x, 0, "pso" + "...p" + "sop");
        Check.losses(x, "lose rows 0 to 15;");
        x.lose(0);
        dueBall(x, 0, "");
        // The number of a row, not how far it is from the last, tells its side.
        x = twoCloths("wide 3 rows 2;row f;");
        Check.lay(x, 0, "110100");
        CHECK.dueText("the CLOTH", Check.cloth(x, 0), "pp./p..");
        dueBall(x, 0, "p.." + ".pp");
    }

    private static void rewind() {
        StitchSays x = twoCloths("wide 4 rows 3;row f;");
        Check.lay(x, 0, "110010010000");
        CHECK.dueText("the CLOTH", Check.cloth(x, 0), "pp../p..p/....");
        CHECK.due("nothing was lost", x.rewind(0, 1), 0);
        CHECK.dueText("knitted back", Check.cloth(x, 1), "pp../p..p/....");
        Check.losses(x, "lose columns 0 to 0;");
        x.lose(0);
        CHECK.dueText("the CLOTH", Check.cloth(x, 0), "#p../#..p/#...");
        // In the order of knitting: p . . p . . . . .
        CHECK.due("places that are otherwise", x.rewind(0, 1), 9);
        CHECK.dueText("the ball's CLOTH stays", Check.cloth(x, 0), "#p../#..p/#...");
        CHECK.dueText("knitted back", Check.cloth(x, 1), "p..p/..../.###");
        CHECK.due("into itself, than it was", x.rewind(0, 0), 9);
        CHECK.dueText("knitted back", Check.cloth(x, 0), "p..p/..../.###");
        CHECK.due("once more", x.rewind(0, 0), 0);
        Check.losses(x, "lose rows 0 to 1;");
        x.lose(1);
        CHECK.due("lost in both is not otherwise", x.rewind(1, 0), 2);
        CHECK.dueText("one is left", Check.cloth(x, 0), ".###/####/####");
    }

    private static void rewoundIntoOtherSorts() {
        StitchSays x = twoCloths("wide 3 rows 2;row khf;row pmf;");
        Check.lay(x, 0, "1111");
        CHECK.dueText("the CLOTH", Check.cloth(x, 0), ".op/psp");
        Check.losses(x, "moth 99 from 0;");
        x.lose(0);
        // o p p s p: what is moved up stands in places of another sort.
        CHECK.due("rewind", x.rewind(0, 1), 5);
        CHECK.dueText("moved up", Check.cloth(x, 1), "opp/#ps");
        CHECK.due("purls in FREE places", x.counts(1, 0), 3);
        CHECK.due("no hole in them", x.counts(1, 1), 0);
        CHECK.due("a slip in f", x.counts(1, 2), 1);
        CHECK.due("purl and slip are unlike", x.counts(1, 3), 1);
        CHECK.due("a purl in h is turned over to plain", x.turn(1, 0, 1), 0);
        CHECK.due("and to a hole", x.turn(1, 0, 1), 2);
        CHECK.due("a slip in f is turned over to plain", x.turn(1, 1, 2), 0);
        CHECK.due("and to a purl", x.turn(1, 1, 2), 1);
        // Lost stitches of the ball leave the last places lost.
        CHECK.due("the lost place", x.at(1, 1, 0), 4);
        // Two turns are tried, and what stood there comes back between them.
        x.rewind(0, 1);
        Check.watcher(x, "stop if slips less 1;stop if purls more 1;");
        CHECK.due("both purls", x.mend(1), 2);
        Check.watcher(x, "stop if slips less 1;stop if purls more 0;");
        CHECK.due("three purls are too many", x.mend(1), -1);
    }

    private static void copy() {
        StitchSays x = twoCloths("wide 4 rows 1;row f;");
        Check.lay(x, 0, "1010");
        CHECK.due("copy(0, 3)", x.copy(0, 3), 0);
        CHECK.dueText("CLOTH 3", Check.cloth(x, 3), "p.p.");
        CHECK.due("CLOTHS", x.count(6), 3);
        x.turn(3, 0, 0);
        CHECK.dueText("CLOTH 0 stays", Check.cloth(x, 0), "p.p.");
        Check.losses(x, "lose columns 1 to 1;");
        x.lose(0);
        CHECK.due("copy(0, 1)", x.copy(0, 1), 0);
        CHECK.dueText("CLOTH 1", Check.cloth(x, 1), "p#p.");
        CHECK.due("copy(0, 0)", x.copy(0, 0), 0);
        CHECK.dueText("CLOTH 0", Check.cloth(x, 0), "p#p.");
        CHECK.due("copy(2, 0)", x.copy(2, 0), -6);
        CHECK.dueText("CLOTH 0 stays", Check.cloth(x, 0), "p#p.");
        CHECK.due("copy(4, 0)", x.copy(4, 0), -2);
        CHECK.due("copy(0, 4)", x.copy(0, 4), -2);
        CHECK.due("copy(-1, 0)", x.copy(-1, 0), -2);
        CHECK.due("copy(2, -1)", x.copy(2, -1), -2);
    }

    private static void turn() {
        StitchSays x = twoCloths("wide 5 rows 2;row fhmkp;");
        for (int row = 0; row < 2; row++) {
            for (int column = 0; column < 3; column++) {
                CHECK.due("turned over", x.turn(0, row, column), column + 1);
                CHECK.due("stands there", x.at(0, row, column), column + 1);
                CHECK.due("turned over again", x.turn(0, row, column), 0);
                CHECK.due("stands there", x.at(0, row, column), 0);
            }
            CHECK.due("k is not FREE", x.turn(0, row, 3), -2);
            CHECK.due("p is not FREE", x.turn(0, row, 4), -2);
        }
        Check.losses(x, "lose columns 1 to 3;");
        x.lose(0);
        CHECK.due("what is lost", x.turn(0, 0, 1), -5);
        CHECK.due("it stays", x.at(0, 0, 1), 4);
        CHECK.due("lost and not FREE", x.turn(0, 0, 3), -2);
        CHECK.due("turn(2, 0, 0)", x.turn(2, 0, 0), -6);
        CHECK.due("turn(2, 0, 3)", x.turn(2, 0, 3), -2);
        CHECK.due("turn(4, 0, 0)", x.turn(4, 0, 0), -2);
        CHECK.due("turn(-1, 0, 0)", x.turn(-1, 0, 0), -2);
        CHECK.due("turn(0, 2, 0)", x.turn(0, 2, 0), -2);
        CHECK.due("turn(0, -1, 0)", x.turn(0, -1, 0), -2);
        CHECK.due("turn(0, 0, 5)", x.turn(0, 0, 5), -2);
        CHECK.due("turn(0, 1, -5)", x.turn(0, 1, -5), -2);
        CHECK.due("turn without a PATTERN", new StitchSays().turn(0, 0, 0), -2);
    }

    private static void wrongNumbers() {
        StitchSays x = twoCloths("wide 5 rows 2;row f;");
        Check.way(x, 0, "way over f;");
        CHECK.due("alike(4, 0)", x.alike(4, 0), -2);
        CHECK.due("alike(0, -1)", x.alike(0, -1), -2);
        CHECK.due("alike(2, 4)", x.alike(2, 4), -2);
        CHECK.due("alike(0, 2)", x.alike(0, 2), -6);
        CHECK.due("alike(2, 0)", x.alike(2, 0), -6);
        CHECK.due("same(4, 0, 0)", x.same(4, 0, 0), -2);
        CHECK.due("same(0, 4, 0)", x.same(0, 4, 0), -2);
        CHECK.due("same(0, 1, 6)", x.same(0, 1, 6), -2);
        CHECK.due("same(0, 1, -1)", x.same(0, 1, -1), -2);
        CHECK.due("same(0, 2, 6)", x.same(0, 2, 6), -2);
        CHECK.due("same(0, 2, 0)", x.same(0, 2, 0), -6);
        CHECK.due("same(2, 0, 0)", x.same(2, 0, 0), -6);
        CHECK.due("same(0, 1, 1)", x.same(0, 1, 1), -6);
        CHECK.due("ball(4, 0)", x.ball(4, 0), -2);
        CHECK.due("ball(-1, 0)", x.ball(-1, 0), -2);
        CHECK.due("ball(2, 0)", x.ball(2, 0), -6);
        CHECK.due("rewind(4, 0)", x.rewind(4, 0), -2);
        CHECK.due("rewind(0, 4)", x.rewind(0, 4), -2);
        CHECK.due("rewind(-1, 0)", x.rewind(-1, 0), -2);
        CHECK.due("rewind(2, 0)", x.rewind(2, 0), -6);
        CHECK.due("rewind(0, 2), as alike()", x.rewind(0, 2), -6);
        CHECK.due("CLOTHS", x.count(6), 2);
    }
}
