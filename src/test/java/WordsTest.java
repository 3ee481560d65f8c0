/** Promises 11 to 16: put, read, letter, bit, dim, says. */
public final class WordsTest {
    private static final Check CHECK = new Check("WordsTest");

    public static void main(String[] args) {
        putAndRead();
        everyLetter();
        roomAndFaults();
        groups();
        guards();
        lostPlaces();
        whatSaysNothing();
        untoldLetters();
        says();
        wrongNumbers();
        CHECK.finish();
    }

    /** A CLOTH of so many f in one or more rows of 10, all plain, and WAY 0. */
    private static StitchSays plain(int rows, String way) {
        StitchSays x = new StitchSays();
        Check.pattern(x, "wide 10 rows " + rows + ";row f;");
        Check.way(x, 0, way);
        x.knit(0, 0);
        return x;
    }

    private static void putAndRead() {
        StitchSays x = plain(2, "way over f;");
        CHECK.due("put hi", Check.put(x, 0, 0, "hi"), 8);
        CHECK.due("the TAPE then", x.count(7), 0);
        CHECK.dueText("hi", Check.cloth(x, 0), ".p....p..p/ppppp.....");
        CHECK.due("letter ahead of reading", x.letter(0), -1);
        CHECK.due("read", x.read(0, 0), 2);
        CHECK.due("LETTERS", x.count(8), 2);
        CHECK.due("letter(0)", x.letter(0), 'h');
        CHECK.due("letter(1)", x.letter(1), 'i');
        CHECK.due("letter(2)", x.letter(2), -1);
        CHECK.due("letter(-1)", x.letter(-1), -1);
        CHECK.due("put hi again", Check.put(x, 0, 0, "hi"), 0);
        // BITS behind stay: of 01000 01001 become 00000 11111.
        CHECK.due("put a blank", Check.put(x, 0, 0, " "), 4);
        CHECK.dueText("a blank", Check.cloth(x, 0), ".....ppppp/ppppp.....");
        CHECK.due("what was read stays", x.letter(1), 'i');
        CHECK.due("read a blank", x.read(0, 0), 1);
        CHECK.due("a blank", x.letter(0), 32);
        CHECK.due("no more", x.letter(1), -1);
    }

    private static void everyLetter() {
        StitchSays x = plain(16, "way over f;");
        CHECK.due("a to n", Check.put(x, 0, 0, "abcdefghijklmn opqrstuvwxyz"),
            1 + 1 + 2 + 1 + 2 + 2 + 3 + 1 + 2 + 2 + 3 + 2 + 3 + 3 + 0
            + 4 + 1 + 2 + 2 + 3 + 2 + 3 + 3 + 4 + 2 + 3 + 3 + 5);
        CHECK.due("read", x.read(0, 0), 27);
        CHECK.dueText("all", Check.letters(x), "abcdefghijklmn opqrstuvwxyz");
    }

    private static void roomAndFaults() {
        StitchSays x = plain(1, "way over f;");
        CHECK.due("no room", Check.put(x, 0, 0, "ab"), -3);
        CHECK.due("the TAPE then", x.count(7), 0);
        CHECK.due("it was no FAULT", x.fault(0), 0);
        CHECK.dueText("nothing happens", Check.cloth(x, 0), "..........");
        CHECK.due("just room", Check.put(x, 0, 0, "z"), 8);
        CHECK.due("none", x.put(0, 0), -4);
        CHECK.due("its fault", x.fault(0), 1);
        CHECK.due("its place", x.fault(1), 0);
        String[] faulty = {"a1", "a\n", "aA", "a;", "a" + (char) 255, "a\0", "a`", "a{"};
        for (String words : faulty) {
            CHECK.due("faulty words", Check.put(x, 0, 0, words), -4);
            CHECK.due("their fault", x.fault(0), 1);
            CHECK.due("their place", x.fault(1), 1);
            CHECK.due("the TAPE then", x.count(7), 0);
        }
        CHECK.due("a FAULT is ahead of no room", Check.put(x, 0, 0, "abcdefghij!"), -4);
        CHECK.due("its place", x.fault(1), 10);
        CHECK.due("a full TAPE", Check.put(x, 0, 0, "a".repeat(600)), -3);
        x = plain(16, "way over f;");
        // 160 BITS are 32 fives.
        CHECK.due("31 letters", Check.put(x, 0, 0, "a".repeat(31)), 36);
        CHECK.due("read", x.read(0, 0), 31);
        CHECK.due("32 letters", Check.put(x, 0, 0, "a".repeat(32)), -3);
        Check.pattern(x, "wide 16 rows 16;row f;");
        x.knit(0, 0);
        CHECK.due("50 letters", Check.put(x, 0, 0, "b".repeat(50)), 55);
        CHECK.due("read", x.read(0, 0), 50);
        CHECK.due("the last", x.letter(49), 'b');
        CHECK.due("none such", x.letter(50), -1);
        CHECK.due("51 letters", Check.put(x, 0, 0, "b".repeat(51)), -3);
    }

    private static void groups() {
        StitchSays x = plain(2, "way over f group 2;");
        CHECK.due("put a", Check.put(x, 0, 0, "a"), 6);
        CHECK.dueText("the last of each GROUP", Check.cloth(x, 0), ".........p/.p.p.p.p.p");
        x.turn(0, 1, 0);
        CHECK.due("both are not plain", x.bit(0, 0, 5), 0);
        CHECK.due("put a", Check.put(x, 0, 0, "a"), 1);
        CHECK.dueText("turned over to plain", Check.cloth(x, 0), ".........p/p..p.p.p.p");
        CHECK.due("read", x.read(0, 0), 1);
        CHECK.due("a", x.letter(0), 'a');
        // By top and turn the last one of a GROUP is another one.
        x = plain(2, "way over f group 2 turn top;");
        CHECK.due("put a", Check.put(x, 0, 0, "a"), 6);
        CHECK.dueText("from the top", Check.cloth(x, 0), ".p.p.p.p.p/p.........");
        // What is left over is none.
        x = plain(1, "way over f group 3;");
        CHECK.due("room", x.room(0), 3);
        CHECK.due("bit(2)", x.bit(0, 0, 2), 0);
        CHECK.due("bit(3)", x.bit(0, 0, 3), -1);
    }

    private static void guards() {
        StitchSays x = plain(3, "way over f guard 3;");
        CHECK.due("put a", Check.put(x, 0, 0, "a"), 18);
        CHECK.dueText("thrice", Check.cloth(x, 0), "........../..pppppppp/pppppppppp");
        x.turn(0, 0, 0);
        x.turn(0, 2, 0);
        CHECK.due("one of three is not enough", x.bit(0, 0, 0), 0);
        CHECK.due("nor here", x.bit(0, 0, 6), 1);
        CHECK.due("read", x.read(0, 0), 1);
        x.turn(0, 0, 1);
        CHECK.due("two of three are", x.bit(0, 0, 0), 1);
        Check.losses(x, "lose columns 2 to 2;");
        x.lose(0);
        CHECK.due("both that are left", x.bit(0, 0, 0), 1);
        x.turn(0, 0, 0);
        CHECK.due("as many as", x.bit(0, 0, 0), 2);
        CHECK.due("can't be told", x.dim(0, 0), 1);
        Check.losses(x, "lose columns 0 to 2;");
        x.lose(0);
        CHECK.due("none is left", x.bit(0, 0, 0), 2);
        CHECK.due("bit 3 as ever", x.bit(0, 0, 3), 0);
        CHECK.due("bit 4 of two", x.bit(0, 0, 4), 1);
    }

    private static void lostPlaces() {
        StitchSays x = plain(2, "way over f group 2;");
        Check.losses(x, "lose columns 9 to 9;");
        x.lose(0);
        CHECK.due("bit 4", x.bit(0, 0, 4), 2);
        CHECK.due("dim", x.dim(0, 0), 2);
        CHECK.due("put a", Check.put(x, 0, 0, "a"), 6);
        CHECK.dueText("the last that is not lost", Check.cloth(x, 0), "........p#/.p.p.p.pp#");
        CHECK.due("put a again", Check.put(x, 0, 0, "a"), 2);
        CHECK.dueText("turned again, for it tells nothing", Check.cloth(x, 0), ".........#/.p.p.p.p.#");
        Check.losses(x, "lose columns 8 to 9;");
        x.lose(0);
        CHECK.due("none to turn", Check.put(x, 0, 0, "a"), 0);
        CHECK.due("untold", x.dim(0, 0), 2);
    }

    /** Of a new CLOTH, as its BITS tell: how many LETTERS. */
    private static int readBits(String bits) {
        StitchSays x = plain(6, "way over f;");
        Check.lay(x, 0, bits.replace(" ", ""));
        int answer = x.read(0, 0);
        CHECK.due("says of " + bits, x.says(0), answer == -1 ? 0 : 1);
        CHECK.due("LETTERS of " + bits, x.count(8), Math.max(0, answer));
        return answer;
    }

    private static void whatSaysNothing() {
        CHECK.due("no 31", readBits("00001 00001"), -1);
        CHECK.due("none ahead", readBits("11111 00001 11111"), -1);
        CHECK.due("one", readBits("11010 11111"), 1);
        CHECK.due("27", readBits("00001 11011 11111"), -1);
        CHECK.due("28", readBits("11100 11111"), -1);
        CHECK.due("29", readBits("11101 11111"), -1);
        CHECK.due("30", readBits("00001 00001 11110 11111"), -1);
        CHECK.due("27 behind", readBits("00000 11111 11011"), 1);
        CHECK.due("across fives", readBits("00111 11000 00000 11111"), 3);
        StitchSays x = plain(2, "way over f;");
        Check.put(x, 0, 0, "no");
        CHECK.due("read", x.read(0, 0), 2);
        x.turn(0, 1, 4);
        CHECK.due("no 31 any more", x.read(0, 0), -1);
        CHECK.dueText("what was read stays", Check.letters(x), "no");
        // A five at the end that is not whole is none.
        x = plain(1, "way over f;");
        Check.pattern(x, "wide 9 rows 1;row f;");
        x.knit(0, 0);
        Check.lay(x, 0, "000011111");
        CHECK.due("nine BITS", x.read(0, 0), -1);
    }

    private static void untoldLetters() {
        StitchSays x = plain(2, "way over f;");
        Check.put(x, 0, 0, "abc");
        Check.losses(x, "lose columns 7 to 7;");
        CHECK.due("lose", x.lose(0), 2);
        CHECK.due("read: the end is lost", x.read(0, 0), -1);
        x.knit(0, 0);
        Check.put(x, 0, 0, "abc");
        Check.losses(x, "moth 99 from 7;");
        x.lose(0);
        CHECK.due("read", x.read(0, 0), 3);
        CHECK.dueText("a?c", Check.letters(x), "a?c");
        CHECK.due("letter(1)", x.letter(1), 63);
        CHECK.due("it says something", x.says(0), 1);
        // 11011 with a BIT that can't be told is no 27.
        x.knit(0, 0);
        Check.lay(x, 0, "1101111111");
        Check.losses(x, "moth 99 from 0;");
        x.lose(0);
        CHECK.due("read ?", x.read(0, 0), 1);
        CHECK.dueText("?", Check.letters(x), "?");
    }

    private static void says() {
        StitchSays x = plain(4, "way over f;");
        Check.way(x, 2, "way over f group 2;");
        CHECK.due("nothing", x.says(0), 0);
        Check.put(x, 0, 0, "a");
        CHECK.due("by WAY 0", x.says(0), 1);
        // The fifth GROUP shall tell 1 now: the end by WAY 0 is no 31 any more.
        Check.put(x, 0, 2, "a");
        CHECK.due("by WAY 2", x.says(0), 4);
        Check.way(x, 2, "way over f top;");
        x.knit(0, 0);
        Check.put(x, 0, 0, "a");
        CHECK.due("a, and six blanks and a", x.says(0), 5);
        Check.way(x, 5, "way over f step 2;");
        x.knit(0, 0);
        Check.put(x, 0, 5, "qq");
        CHECK.due("by WAY 5", x.says(0) & 32, 32);
        CHECK.due("nothing was read", x.count(8), 0);
    }

    private static void wrongNumbers() {
        StitchSays x = new StitchSays();
        for (int way = 0; way < 2; way++) {
            CHECK.due("put(4, 0)", Check.put(x, 4, 0, "a"), -2);
            CHECK.due("put(-1, 0)", x.put(-1, 0), -2);
            CHECK.due("put(0, 6)", x.put(0, 6), -2);
            CHECK.due("put(0, -1)", x.put(0, -1), -2);
            CHECK.due("put: not there", x.put(0, 0), -6);
            CHECK.due("the TAPE by -2, -6", x.count(7), 1);
            CHECK.due("read(4, 0)", x.read(4, 0), -2);
            CHECK.due("read(-1, 0)", x.read(-1, 0), -2);
            CHECK.due("read(0, 6)", x.read(0, 6), -2);
            CHECK.due("read(0, -1)", x.read(0, -1), -2);
            CHECK.due("read: not there", x.read(0, 0), -6);
            CHECK.due("bit(4, 0, 0)", x.bit(4, 0, 0), -2);
            CHECK.due("bit(0, 6, 0)", x.bit(0, 6, 0), -2);
            CHECK.due("bit: not there", x.bit(0, 0, -1), -6);
            CHECK.due("dim(4, 0)", x.dim(4, 0), -2);
            CHECK.due("dim(0, 6)", x.dim(0, 6), -2);
            CHECK.due("dim: not there", x.dim(0, 0), -6);
            // At first there is neither, then a WAY alone.
            Check.pattern(x, "wide 10 rows 1;row f;");
            Check.way(x, 0, "way over f;");
        }
        x.knit(0, 0);
        CHECK.due("no such WAY", Check.put(x, 0, 1, "a"), -6);
        CHECK.due("no such WAY", x.read(0, 1), -6);
        CHECK.due("no such WAY", x.bit(0, 1, 0), -6);
        CHECK.due("no such WAY", x.dim(0, 1), -6);
        CHECK.due("bit(-1)", x.bit(0, 0, -1), -1);
        CHECK.due("bit(9)", x.bit(0, 0, 9), 0);
        CHECK.due("bit(10)", x.bit(0, 0, 10), -1);
        CHECK.due("says(4)", x.says(4), -2);
        CHECK.due("says(-1)", x.says(-1), -2);
        CHECK.due("says(1)", x.says(1), -6);
    }
}
