/** Promises 10, 17, 18: knit, at, sort. */
public final class ClothTest {
    private static final Check CHECK = new Check("ClothTest");

    public static void main(String[] args) {
        sorts();
        knittedBySort();
        knittedFromSeeds();
        wrongNumbers();
        CHECK.finish();
    }

    private static void sorts() {
        StitchSays x = new StitchSays();
        CHECK.due("sort without a PATTERN", x.sort(0, 0), -1);
        CHECK.due("FREE places", Check.pattern(x, "wide 5 rows 3;row kpf;row hm;"), 7);
        int[][] due = {{0, 1, 2, 0, 1}, {3, 4, 3, 4, 3}, {0, 1, 2, 0, 1}};
        for (int row = 0; row < 3; row++) {
            for (int column = 0; column < 5; column++) {
                CHECK.due("sort(" + row + ", " + column + ")", x.sort(row, column), due[row][column]);
            }
        }
        CHECK.due("sort(3, 0)", x.sort(3, 0), -1);
        CHECK.due("sort(-1, 0)", x.sort(-1, 0), -1);
        CHECK.due("sort(0, 5)", x.sort(0, 5), -1);
        CHECK.due("sort(0, -1)", x.sort(0, -1), -1);
        CHECK.due("sort(1, -1)", x.sort(1, -1), -1);
        // Signs behind the last column and rows behind the last row are told, but not there.
        CHECK.due("longer rows", Check.pattern(x, "wide 2 rows 2;row kkffff;row hkm;row f;"), 1);
        CHECK.due("sort(1, 0)", x.sort(1, 0), 3);
        CHECK.due("sort(1, 1)", x.sort(1, 1), 0);
    }

    private static void knittedBySort() {
        StitchSays x = new StitchSays();
        Check.pattern(x, "wide 5 rows 3;row kpf;row hm;");
        CHECK.due("knit without a HAND", x.knit(0, 77), 0);
        CHECK.dueText("without a HAND", Check.cloth(x, 0), ".p..p/...../.p..p");
        Check.hand(x, "hand f 100 h 0 m 0;");
        CHECK.due("knit f", x.knit(0, 77), 2);
        CHECK.dueText("f alone", Check.cloth(x, 0), ".pp.p/...../.pp.p");
        Check.hand(x, "hand f 0 h 100 m 0;");
        CHECK.due("knit h", x.knit(1, 77), 3);
        CHECK.dueText("h alone", Check.cloth(x, 1), ".p..p/o.o.o/.p..p");
        Check.hand(x, "hand f 0 h 0 m 100;");
        CHECK.due("knit m in place of another", x.knit(0, 77), 2);
        CHECK.dueText("m alone", Check.cloth(x, 0), ".p..p/.s.s./.p..p");
        CHECK.due("CLOTHS", x.count(6), 2);
        CHECK.due("at(0, 3, 0)", x.at(0, 3, 0), -1);
        CHECK.due("at(0, 0, 5)", x.at(0, 0, 5), -1);
        CHECK.due("at(0, -1, 0)", x.at(0, -1, 0), -1);
        CHECK.due("at(0, 1, -1)", x.at(0, 1, -1), -1);
        CHECK.due("at(2, 0, 0)", x.at(2, 0, 0), -1);
        CHECK.due("at(4, 0, 0)", x.at(4, 0, 0), -1);
        CHECK.due("at(-1, 0, 0)", x.at(-1, 0, 0), -1);
        Check.losses(x, "lose columns 1 to 1;");
        x.lose(1);
        CHECK.due("at of what is lost", x.at(1, 0, 1), 4);
    }

    private static void knittedFromSeeds() {
        StitchSays x = new StitchSays();
        // From seed 1 come 16838 5758 10113 17515 31051 5627 23010 7419 16212 4086.
        Check.pattern(x, "wide 10 rows 1;row f;");
        Check.hand(x, "hand f 50 h 0 m 0;");
        CHECK.due("knit(0, 1)", x.knit(0, 1), 7);
        CHECK.dueText("by 50", Check.cloth(x, 0), "p.pp.pppp.");
        Check.hand(x, "hand f 38 h 0 m 0;");
        CHECK.due("by 38", x.knit(0, 1), 6);
        CHECK.dueText("by 38", Check.cloth(x, 0), "..pp.pppp.");
        Check.hand(x, "hand f 39 h 0 m 0;");
        CHECK.due("by 39", x.knit(0, 1), 7);
        // Only FREE places take a number, each by its own share, from row to row.
        Check.pattern(x, "wide 3 rows 5;row kfh;row pmk;");
        Check.hand(x, "hand f 14 h 59 m 15;");
        CHECK.due("mixed", x.knit(2, 1), 5);
        // f 38, h 58, m 13, f 15, h 51, m 27, f 10, h 19
        CHECK.dueText("mixed", Check.cloth(x, 2), "..o/ps./..o/p../.po");
    }

    private static void wrongNumbers() {
        StitchSays x = new StitchSays();
        CHECK.due("no PATTERN", x.knit(0, 0), -6);
        CHECK.due("no PATTERN, no number", x.knit(4, 0), -2);
        CHECK.due("no PATTERN, no seed", x.knit(0, -1), -2);
        Check.pattern(x, "wide 1 rows 1;row k;");
        CHECK.due("knit(-1, 0)", x.knit(-1, 0), -2);
        CHECK.due("knit(4, 0)", x.knit(4, 0), -2);
        CHECK.due("knit(0, -1)", x.knit(0, -1), -2);
        CHECK.due("knit(0, 2000000001)", x.knit(0, 2000000001), -2);
        CHECK.due("none were knitted", x.count(6), 0);
        CHECK.due("knit(3, 2000000000)", x.knit(3, 2000000000), 0);
        CHECK.due("CLOTHS", x.count(6), 1);
    }
}
