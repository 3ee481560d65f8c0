/** Terms II, III and promises 10 to 21: every bound that a sentence on PLACES, BITS and WORDS names, on both of its sides. */
public final class WayBoundsTest {
    private static final Check CHECK = new Check("WayBoundsTest");

    public static void main(String[] args) {
        ordersOfPlaces();
        steps();
        groupsAndGuards();
        whatGroupsTell();
        whatBitsTell();
        waysInTurn();
        bitsOfBytes();
        whatIsTurnedOver();
        roomForWords();
        fives();
        fivesInDoubt();
        shares();
        seeds();
        clothsByNumber();
        lettersByNumber();
        bitsByNumber();
        dim();
        says();
        stitchesAndSorts();
        CHECK.finish();
    }

    /** A CLOTH of so many f in a row, all plain, and WAY 0. */
    private static StitchSays plain(int wide, int rows, String way) {
        StitchSays x = new StitchSays();
        Check.pattern(x, "wide " + wide + " rows " + rows + ";row f;");
        Check.way(x, 0, way);
        x.knit(0, 0);
        return x;
    }

    /** Loses single places, numbered row by row: # in the text. */
    private static void losePlaces(StitchSays x, int c, String signs) {
        StringBuilder losses = new StringBuilder();
        for (int i = 0; i < signs.length(); i++) {
            losses.append(signs.charAt(i) == '#' ? "moth 99 from " + i + ";" : "");
        }
        Check.losses(x, losses.toString());
        x.lose(c);
    }

    /** The n-th text of so many of the signs. */
    private static String textOf(String signs, int length, int n) {
        StringBuilder text = new StringBuilder();
        for (int i = 0; i < length; i++) {
            text.append(signs.charAt(n % signs.length()));
            n /= signs.length();
        }
        return text.toString();
    }

    private static int numberOf(String text, char sign) {
        return text.length() - text.replace("" + sign, "").length();
    }

    // ---- II: PLACES, GROUPS, BITS; promises 19 to 21

    private static void ordersOfPlaces() {
        int[] sides = {1, 2, 3, 15, 16};
        for (int wide : sides) {
            for (int rows : sides) {
                for (int kind = 0; kind < 4; kind++) {
                    orderOfPlaces(wide, rows, kind >= 2, kind % 2 == 1);
                }
            }
        }
    }

    private static void orderOfPlaces(int wide, int rows, boolean turn, boolean top) {
        String way = "way over f" + (turn ? " turn" : "") + (top ? " top" : "") + ";";
        StitchSays x = plain(wide, rows, way);
        String what = " of " + wide + " by " + rows + ", " + way;
        int i = 0;
        for (int n = 0; n < rows; n++) {
            int row = top ? rows - 1 - n : n;
            for (int m = 0; m < wide; m++) {
                int column = turn && row % 2 != 0 ? wide - 1 - m : m;
                CHECK.due("place " + i + what, x.place(0, i), 100 * row + column);
                i++;
            }
        }
        CHECK.due("place " + i + what, x.place(0, i), -1);
        CHECK.due("place -1" + what, x.place(0, -1), -1);
        CHECK.due("room" + what, x.room(0), wide * rows);
        CHECK.due("most" + what, x.most(0), Math.max(0, wide * rows / 5 - 1));
    }

    /** The step-th, twice that, ..: none ahead of the step-th. */
    private static void steps() {
        for (int free = 1; free <= 16; free++) {
            for (int step = 1; step <= 9; step++) {
                StitchSays x = plain(free, 1, "way over f step " + step + ";");
                String what = " of " + free + " by step " + step;
                for (int i = 0; i < free / step; i++) {
                    CHECK.due("place " + i + what, x.place(0, i), (i + 1) * step - 1);
                }
                CHECK.due("place behind" + what, x.place(0, free / step), -1);
                CHECK.due("room" + what, x.room(0), free / step);
            }
        }
        // Steps are counted over the SORTS of the WAY alone, from row to row.
        StitchSays x = new StitchSays();
        Check.pattern(x, "wide 4 rows 2;row fhkm;row hfhp;");
        CHECK.due("every second of f, h", Check.way(x, 0, "way over fh step 2;"), 2);
        CHECK.due("the first", x.place(0, 0), 1);
        CHECK.due("the second", x.place(0, 1), 101);
        CHECK.due("no third", x.place(0, 2), -1);
        CHECK.due("no place", Check.way(x, 0, "way over m step 2;"), 0);
        CHECK.due("no place", x.place(0, 0), -1);
    }

    private static void groupsAndGuards() {
        int[] guards = {1, 3, 5};
        for (int free = 1; free <= 256; free += free < 60 ? 1 : 7) {
            for (int group = 1; group <= 5; group++) {
                for (int guard : guards) {
                    String way = "way over f group " + group + " guard " + guard + ";";
                    // A number near it that can be told as wide times rows.
                    StitchSays x = new StitchSays();
                    int wide = free <= 16 ? free : free % 16 == 0 ? 16 : free % 15 == 0 ? 15 : free % 12 == 0 ? 12 : 10;
                    int rows = Math.min(16, free / wide);
                    Check.pattern(x, "wide " + wide + " rows " + rows + ";row f;");
                    int bits = wide * rows / group / guard;
                    String what = " of " + wide * rows + " by " + way;
                    CHECK.due("way()" + what, Check.way(x, 5, way), bits);
                    CHECK.due("room" + what, x.room(5), bits);
                    CHECK.due("most" + what, x.most(5), bits < 5 ? 0 : bits / 5 - 1);
                    CHECK.due("the last place" + what, x.place(5, wide * rows - 1), 100 * (rows - 1) + wide - 1);
                    x.knit(0, 0);
                    CHECK.due("the last BIT" + what, x.bit(0, 5, bits - 1), bits == 0 ? -1 : 0);
                    CHECK.due("behind it" + what, x.bit(0, 5, bits), -1);
                }
            }
        }
    }

    /** How many are not plain, modulo 2; nothing, if one is lost: all GROUPS of up to five. */
    private static void whatGroupsTell() {
        for (int group = 1; group <= 5; group++) {
            for (int n = 0; n < Math.pow(3, group); n++) {
                String signs = textOf("01#", group, n);
                StitchSays x = plain(group, 1, "way over f group " + group + ";");
                Check.lay(x, 0, signs.replace('#', '1'));
                losePlaces(x, 0, signs);
                int due = signs.contains("#") ? 2 : numberOf(signs, '1') % 2;
                CHECK.due("the BIT of " + signs, x.bit(0, 0, 0), due);
                CHECK.due("dim of " + signs, x.dim(0, 0), due == 2 ? 1 : 0);
            }
        }
    }

    /** What most GROUPS tell; not to be told, if as many tell 0 as 1, and if none does. */
    private static void whatBitsTell() {
        for (int guard = 1; guard <= 5; guard += 2) {
            for (int n = 0; n < Math.pow(3, guard); n++) {
                String signs = textOf("01#", guard, n);
                StitchSays x = plain(guard, 1, "way over f guard " + guard + ";");
                Check.lay(x, 0, signs.replace('#', '0'));
                losePlaces(x, 0, signs);
                int more = numberOf(signs, '1') - numberOf(signs, '0');
                int due = more == 0 ? 2 : more > 0 ? 1 : 0;
                CHECK.due("the BIT of " + signs, x.bit(0, 0, 0), due);
                CHECK.due("dim of " + signs, x.dim(0, 0), due == 2 ? 1 : 0);
                CHECK.due("told alike in " + signs, x.same(0, 0, 0), due == 2 ? 0 : 1);
            }
        }
    }

    /** Each call goes by the WAY that it names, whichever was named ahead of it. */
    private static void waysInTurn() {
        StitchSays x = plain(10, 2, "way over f;");
        String[] ways = {"way over f;", "way over f top;", "way over f step 2;", "way over f group 3;",
            "way over f guard 5 turn;", "way over f step 9;"};
        int[] rooms = {20, 20, 10, 6, 4, 2};
        int[] lastPlaces = {109, 9, 109, 109, 100, 107};
        int[] bits = {0, 1, 0, 0, 0, 0};
        int[] lost = {10, 10, 5, 4, 2, 1};
        for (int k = 0; k < 6; k++) {
            Check.way(x, k, ways[k]);
        }
        x.knit(1, 0);
        x.turn(1, 1, 0);
        x.knit(2, 0);
        Check.losses(x, "lose rows 0 to 0;");
        x.lose(2);
        for (int shift = 0; shift < 6; shift++) {
            for (int n = 0; n < 6; n++) {
                int k = (n + shift * n) % 6;
                CHECK.due("room(" + k + ")", x.room(k), rooms[k]);
                int other = (k + 1 + shift) % 6;
                CHECK.due("bit(1, " + other + ", 0)", x.bit(1, other, 0), bits[other]);
                CHECK.due("dim(2, " + k + ")", x.dim(2, k), lost[k]);
                CHECK.due("most(" + other + ")", x.most(other), Math.max(0, rooms[other] / 5 - 1));
                int places = k == 2 ? 10 : k == 5 ? 2 : 20;
                CHECK.due("place(" + k + ", the last)", x.place(k, places - 1), lastPlaces[k]);
                CHECK.due("same(1, 1, " + other + ")", x.same(1, 1, other), rooms[other]);
            }
        }
    }

    // ---- III: WORDS; promises 11, 12

    /** a .. z are 1 .. 26, a blank 0, each as five BITS, the highest first, behind all 31. */
    private static void bitsOfBytes() {
        String bytes = " abcdefghijklmnopqrstuvwxyz";
        for (int value = 0; value <= 26; value++) {
            StitchSays x = plain(12, 1, "way over f;");
            int ones = Integer.bitCount(value) + 5;
            CHECK.due("put of " + value, Check.put(x, 0, 0, bytes.substring(value, value + 1)), ones);
            for (int i = 0; i < 5; i++) {
                CHECK.due("BIT " + i + " of " + value, x.bit(0, 0, i), value >> (4 - i) & 1);
                CHECK.due("BIT " + i + " of 31", x.bit(0, 0, 5 + i), 1);
            }
            CHECK.due("behind", x.bit(0, 0, 10), 0);
            CHECK.due("behind", x.bit(0, 0, 11), 0);
            CHECK.due("read", x.read(0, 0), 1);
            CHECK.due("letter", x.letter(0), bytes.charAt(value));
        }
    }

    /** Of a GROUP's PLACES that are not lost the last one is turned over, where it does not tell the BIT (or nothing). */
    private static void whatIsTurnedOver() {
        for (int n = 0; n < 243; n++) {
            String signs = textOf("01#", 5, n);
            // The first BIT of a is 0, of p is 1.
            for (int value = 0; value <= 1; value++) {
                StitchSays x = plain(10, 5, "way over f group 5;");
                Check.lay(x, 0, signs.replace('#', '0'));
                losePlaces(x, 0, signs);
                String before = Check.cloth(x, 0);
                boolean tells = !signs.contains("#") && numberOf(signs, '1') % 2 == value;
                char[] due = signs.toCharArray();
                int last = Math.max(signs.lastIndexOf('0'), signs.lastIndexOf('1'));
                if (!tells && last >= 0) {
                    due[last] = due[last] == '0' ? '1' : '0';
                }
                int answer = Check.put(x, 0, 0, value == 0 ? "a" : "p");
                String after = Check.cloth(x, 0);
                CHECK.dueText(signs + " for " + value, after.substring(0, 5), new String(due).replace('0', '.').replace('1', 'p'));
                int changed = 0;
                for (int i = 0; i < after.length(); i++) {
                    changed += after.charAt(i) == before.charAt(i) ? 0 : 1;
                }
                CHECK.due("places changed of " + signs, answer, changed);
                CHECK.due("and by the count of BITS", answer, 6 + (tells || last < 0 ? 0 : 1) - (value == 1 ? 1 : 0));
            }
        }
    }

    /** A WORD of n LETTERS needs 5 (n + 1) BITS. */
    private static void roomForWords() {
        for (int bits = 1; bits <= 16; bits++) {
            for (int letters = 1; letters <= 4; letters++) {
                StitchSays x = plain(bits, 1, "way over f;");
                boolean room = 5 * (letters + 1) <= bits;
                int answer = Check.put(x, 0, 0, "a".repeat(letters));
                CHECK.due(letters + " LETTERS into " + bits, answer, room ? letters + 5 : -3);
                CHECK.due("bytes then", x.count(7), 0);
                CHECK.due("FAULT", x.fault(0), 0);
                CHECK.due("not plain", x.counts(0, 0), room ? letters + 5 : 0);
                CHECK.due("most", x.most(0) >= letters ? 1 : 0, room ? 1 : 0);
                CHECK.due("read", x.read(0, 0), room ? letters : -1);
            }
        }
        for (int rows = 1; rows <= 16; rows++) {
            StitchSays x = plain(16, rows, "way over f;");
            int most = 16 * rows / 5 - 1;
            CHECK.due("most of " + 16 * rows, x.most(0), most);
            CHECK.due("one more than most", Check.put(x, 0, 0, "b".repeat(most + 1)), -3);
            CHECK.due("most", Check.put(x, 0, 0, "b".repeat(most)), most + 5);
            CHECK.due("once more changes nothing", Check.put(x, 0, 0, "b".repeat(most)), 0);
            CHECK.due("read", x.read(0, 0), most);
            CHECK.due("LETTERS", x.count(8), most);
            CHECK.due("the last", x.letter(most - 1), 'b');
            CHECK.due("behind the last", x.letter(most), -1);
        }
        StitchSays x = plain(16, 16, "way over h;");
        CHECK.due("no BITS at all", Check.put(x, 0, 0, "a"), -3);
        x = plain(9, 1, "way over f;");
        CHECK.due("a TAPE of 600 bytes", Check.put(x, 0, 0, "a".repeat(600)), -3);
    }

    private static String five(int value) {
        StringBuilder bits = new StringBuilder();
        for (int i = 4; i >= 0; i--) {
            bits.append(value >> i & 1);
        }
        return bits.toString();
    }

    /** What is read of so many fives; the CLOTH has room for them alone. */
    private static int readFives(StitchSays x, int... values) {
        StringBuilder bits = new StringBuilder();
        for (int value : values) {
            bits.append(five(value));
        }
        Check.pattern(x, "wide 5 rows " + values.length + ";row f;");
        Check.way(x, 0, "way over f;");
        x.knit(0, 0);
        Check.lay(x, 0, bits.toString());
        return x.read(0, 0);
    }

    private static void fives() {
        for (int value = 0; value <= 31; value++) {
            StitchSays x = new StitchSays();
            boolean letter = value <= 26;
            CHECK.due(value + " ahead of 31", readFives(x, value, 31), letter ? 1 : -1);
            CHECK.due("says", x.says(0), letter ? 1 : 0);
            CHECK.due("the LETTER", x.letter(0), !letter ? -1 : value == 0 ? 32 : 96 + value);
            CHECK.due("a, " + value + " ahead of 31", readFives(new StitchSays(), 1, value, 31), letter ? 2 : value == 31 ? 1 : -1);
            CHECK.due("a, 31, " + value, readFives(new StitchSays(), 1, 31, value), 1);
            CHECK.due("31, " + value + ", 31", readFives(new StitchSays(), 31, value, 31), -1);
            CHECK.due("no 31: " + value, readFives(new StitchSays(), value), -1);
            CHECK.due("no 31: a, " + value, readFives(new StitchSays(), 1, value), value == 31 ? 1 : -1);
        }
        // A five that is not whole is none: 31 in the last BITS but one missing.
        for (int bits = 5; bits <= 16; bits++) {
            StitchSays x = plain(bits, 1, "way over f;");
            Check.lay(x, 0, "0000111111111111".substring(0, bits));
            CHECK.due("00001 11111 .. of " + bits, x.read(0, 0), bits >= 10 ? 1 : -1);
        }
        StitchSays x = plain(4, 1, "way over f;");
        CHECK.due("no five at all", x.read(0, 0), -1);
        // What was read stays by NONE.
        CHECK.due("b, c, 31", readFives(x, 2, 3, 31), 2);
        CHECK.due("27, 31", readFives(x, 27, 31), -1);
        CHECK.dueText("what was read", Check.letters(x), "bc");
        CHECK.due("31", readFives(x, 31, 1), -1);
        CHECK.dueText("what was read", Check.letters(x), "bc");
        CHECK.due("0, 31", readFives(x, 0, 31), 1);
        CHECK.dueText("what was read", Check.letters(x), " ");
    }

    /** A five with a BIT that can't be told is a LETTER that can't be told, whatever the others tell. */
    private static void fivesInDoubt() {
        for (int value = 0; value <= 31; value++) {
            for (int bit = 0; bit < 5; bit++) {
                StitchSays x = new StitchSays();
                readFives(x, 1, value, 31, 2, 31);
                losePlaces(x, 0, ".".repeat(5 + bit) + "#");
                CHECK.due(value + " without BIT " + bit, x.read(0, 0), 2);
                CHECK.dueText("LETTERS", Check.letters(x), "a?");
                CHECK.due("letter(1)", x.letter(1), 63);
                CHECK.due("letter(2)", x.letter(2), -1);
                CHECK.due("says", x.says(0), 1);
            }
        }
        for (int bit = 0; bit < 5; bit++) {
            StitchSays x = new StitchSays();
            readFives(x, 1, 31, 2);
            losePlaces(x, 0, ".".repeat(5 + bit) + "#");
            CHECK.due("the 31 can't be told, nor is there another", x.read(0, 0), -1);
            readFives(x, 1, 31, 2, 31);
            losePlaces(x, 0, ".".repeat(5 + bit) + "#");
            CHECK.due("the 31 can't be told, but there is another", x.read(0, 0), 3);
            CHECK.dueText("LETTERS", Check.letters(x), "a?b");
            readFives(x, 1, 31);
            losePlaces(x, 0, ".".repeat(bit) + "#");
            CHECK.due("one that can't be told is one ahead", x.read(0, 0), 1);
            CHECK.dueText("LETTERS", Check.letters(x), "?");
        }
    }

    // ---- KNITTED; promise 10

    private static long next(long number) {
        return (1_103_515_245L * number + 12_345L) % 2_147_483_648L;
    }

    /** "is below its sort's share": not with the share alike. */
    private static void shares() {
        String[] sorts = {"f", "h", "m"};
        for (int seed = 0; seed <= 60; seed++) {
            int told = (int) (next(seed) / 65_536 % 100);
            for (int i = 0; i < 3; i++) {
                StitchSays x = new StitchSays();
                Check.pattern(x, "wide 1 rows 1;row " + sorts[i] + ";");
                String others = "hand f 100 h 100 m 100;".replace(sorts[i] + " 100", sorts[i] + " N");
                int[] shares = {0, told, told + 1, 100};
                for (int share : shares) {
                    CHECK.due("hand", Check.hand(x, others.replace("N", "" + share)), 0);
                    boolean plain = told >= share;
                    CHECK.due(told + " by " + share, x.knit(0, seed), plain ? 0 : 1);
                    CHECK.due("at", x.at(0, 0, 0), plain ? 0 : i + 1);
                }
            }
        }
    }

    /** Seeds 0 .. 2,000,000,000, the numbers one behind the other in FREE places alone. */
    private static void seeds() {
        int[] seeds = {0, 1, 2, 65_535, 65_536, 1_073_741_823, 1_073_741_824, 1_999_999_999, 2_000_000_000};
        for (int seed : seeds) {
            StitchSays x = new StitchSays();
            Check.pattern(x, "wide 16 rows 4;row fkh;row pmf;");
            Check.hand(x, "hand f 50 h 30 m 70;");
            int[] shares = {50, 30, 70};
            long number = seed;
            int notPlain = 0;
            int answer = x.knit(3, seed);
            for (int row = 0; row < 4; row++) {
                for (int column = 0; column < 16; column++) {
                    int sort = x.sort(row, column);
                    int due = sort;
                    if (sort >= 2) {
                        number = next(number);
                        due = number / 65_536 % 100 < shares[sort - 2] ? sort - 1 : 0;
                        notPlain += due == 0 ? 0 : 1;
                    }
                    CHECK.due("at(3, " + row + ", " + column + ") from " + seed, x.at(3, row, column), due);
                }
            }
            CHECK.due("not plain from " + seed, answer, notPlain);
        }
        StitchSays x = plain(1, 1, "way over f;");
        int[] refused = {-1, 2_000_000_001, Integer.MAX_VALUE, Integer.MIN_VALUE};
        for (int seed : refused) {
            CHECK.due("knit(0, " + seed + ")", x.knit(0, seed), -2);
        }
    }

    private static void clothsByNumber() {
        StitchSays x = new StitchSays();
        Check.pattern(x, "wide 2 rows 1;row f;");
        for (int c = 0; c < 4; c++) {
            CHECK.due("says(" + c + ")", x.says(c), -6);
            CHECK.due("knit(" + c + ", 0)", x.knit(c, 0), 0);
            CHECK.due("says(" + c + ")", x.says(c), 0);
            CHECK.due("CLOTHS", x.count(6), c + 1);
        }
        x.turn(2, 0, 1);
        CHECK.due("in place of another", x.knit(2, 0), 0);
        CHECK.due("at(2, 0, 1)", x.at(2, 0, 1), 0);
        CHECK.due("CLOTHS", x.count(6), 4);
        CHECK.due("knit(4, 0)", x.knit(4, 0), -2);
        CHECK.due("knit(-1, 0)", x.knit(-1, 0), -2);
        // What is lost is knitted again, places that are not FREE too.
        Check.pattern(x, "wide 3 rows 1;row fkp;");
        x.knit(1, 0);
        Check.losses(x, "lose rows 0 to 0;");
        CHECK.due("all lost", x.lose(1), 3);
        CHECK.due("knit", x.knit(1, 0), 0);
        CHECK.dueText("knitted again", Check.cloth(x, 1), "..p");
    }

    // ---- promises 13 to 18

    private static void lettersByNumber() {
        for (int letters = 1; letters <= 50; letters++) {
            StitchSays x = plain(16, 16, "way over f;");
            String words = "the quick brown fox jumps over the lazy dog again and so on".substring(0, letters);
            Check.put(x, 0, 0, words);
            CHECK.due("read " + words, x.read(0, 0), letters);
            CHECK.due("LETTERS", x.count(8), letters);
            CHECK.dueText("words", Check.letters(x), words);
            CHECK.due("letter(-1)", x.letter(-1), -1);
            CHECK.due("letter(" + letters + ")", x.letter(letters), -1);
        }
    }

    private static void bitsByNumber() {
        for (int free = 1; free <= 16; free++) {
            StitchSays x = plain(free, 1, "way over f;");
            x.turn(0, 0, 0);
            x.turn(0, 0, free - 1);
            CHECK.due("bit(-1)", x.bit(0, 0, -1), -1);
            CHECK.due("bit(0)", x.bit(0, 0, 0), free == 1 ? 0 : 1);
            CHECK.due("bit(" + (free - 1) + ")", x.bit(0, 0, free - 1), free == 1 ? 0 : 1);
            CHECK.due("bit(" + free + ")", x.bit(0, 0, free), -1);
            CHECK.due("bit(least)", x.bit(0, 0, Integer.MIN_VALUE), -1);
            CHECK.due("bit(most)", x.bit(0, 0, Integer.MAX_VALUE), -1);
        }
        StitchSays x = plain(5, 1, "way over h;");
        CHECK.due("a WAY without BITS", x.bit(0, 0, 0), -1);
        CHECK.due("dim of none", x.dim(0, 0), 0);
        x = plain(16, 16, "way over f;");
        CHECK.due("bit(255)", x.bit(0, 0, 255), 0);
        CHECK.due("bit(256)", x.bit(0, 0, 256), -1);
        for (int k = 1; k < 6; k++) {
            CHECK.due("bit by WAY " + k, x.bit(0, k, 0), -6);
            Check.way(x, k, "way over f;");
            CHECK.due("bit by WAY " + k, x.bit(0, k, 0), 0);
        }
        CHECK.due("bit by WAY 6", x.bit(0, 6, 0), -2);
    }

    private static void dim() {
        for (int lost = 0; lost <= 16; lost++) {
            StitchSays x = plain(16, 1, "way over f;");
            if (lost > 0) {
                Check.losses(x, "lose columns 0 to " + (lost - 1) + ";");
                x.lose(0);
            }
            CHECK.due("dim of " + lost + " lost", x.dim(0, 0), lost);
            Check.way(x, 1, "way over f group 2;");
            CHECK.due("dim by groups of two", x.dim(0, 1), (lost + 1) / 2);
            Check.way(x, 2, "way over f guard 3;");
            CHECK.due("dim by guards of three", x.dim(0, 2), lost / 3);
            // What is left over is in no BIT.
            Check.way(x, 3, "way over f group 5 top;");
            CHECK.due("dim by groups of five", x.dim(0, 3), Math.min(3, (lost + 4) / 5));
        }
    }

    private static void says() {
        StitchSays x = plain(16, 1, "way over f;");
        CHECK.due("a WAY that says nothing", x.says(0), 0);
        Check.put(x, 0, 0, "a");
        int due = 1;
        CHECK.due("WAY 0", x.says(0), due);
        for (int k = 1; k < 6; k++) {
            Check.way(x, k, "way over f;");
            due |= 1 << k;
            CHECK.due("WAYS 0 .. " + k, x.says(0), due);
        }
        CHECK.due("all six", x.says(0), 63);
        for (int k = 0; k < 6; k++) {
            Check.way(x, k, "way over h;");
            due &= ~(1 << k);
            CHECK.due("without WAY " + k, x.says(0), due);
        }
        CHECK.due("what was read", x.count(8), 0);
        StitchSays none = new StitchSays();
        Check.pattern(none, "wide 16 rows 1;row f;");
        none.knit(0, 0);
        CHECK.due("no WAY at all", none.says(0), 0);
    }

    private static void stitchesAndSorts() {
        StitchSays x = new StitchSays();
        Check.pattern(x, "wide 16 rows 16;row kpfhm;");
        Check.hand(x, "hand f 100 h 100 m 100;");
        x.knit(3, 0);
        Check.losses(x, "lose columns 15 to 15;");
        x.lose(3);
        int[] stitches = {0, 1, 1, 2, 3};
        for (int column = 0; column < 15; column++) {
            CHECK.due("sort(0, " + column + ")", x.sort(0, column), column % 5);
            CHECK.due("sort(15, " + column + ")", x.sort(15, column), column % 5);
            CHECK.due("at(3, 0, " + column + ")", x.at(3, 0, column), stitches[column % 5]);
            CHECK.due("at(3, 15, " + column + ")", x.at(3, 15, column), stitches[column % 5]);
        }
        CHECK.due("the last sort", x.sort(15, 15), 0);
        CHECK.due("the last stitch", x.at(3, 15, 15), 4);
        int[] beside = {Integer.MIN_VALUE, -16, -1, 16, 256, Integer.MAX_VALUE};
        for (int n : beside) {
            CHECK.due("sort(" + n + ", 0)", x.sort(n, 0), -1);
            CHECK.due("sort(0, " + n + ")", x.sort(0, n), -1);
            CHECK.due("sort(1, " + n + ")", x.sort(1, n), -1);
            CHECK.due("at(3, " + n + ", 0)", x.at(3, n, 0), -1);
            CHECK.due("at(3, 0, " + n + ")", x.at(3, 0, n), -1);
            CHECK.due("at(3, 1, " + n + ")", x.at(3, 1, n), -1);
        }
        for (int c = -1; c <= 4; c++) {
            CHECK.due("at(" + c + ", 0, 1)", x.at(c, 0, 1), c == 3 ? 1 : -1);
        }
    }
}
