/** Terms I and promises 2 to 9: every bound that a sentence on texts names, on both of its sides. */
public final class TextBoundsTest {
    private static final Check CHECK = new Check("TextBoundsTest");
    private static final String LETTERS = "abcdefghijklmnopqrstuvwxyz";

    public static void main(String[] args) {
        bytesBetweenTokens();
        bytesBehindAll();
        bytesInWords();
        longestTokens();
        wideAndRows();
        longNumbers();
        toldRows();
        signs();
        rowsAndColumnsAgain();
        shares();
        sortsOfWays();
        numbersOfWays();
        optionsOfWays();
        numbersOfLines();
        partsOfTests();
        stretches();
        moths();
        bytesOfWords();
        theFirstByItsPlace();
        ofOnePlaceTheLeast();
        theEndIsAPlace();
        feeds();
        ends();
        inPlaceOfAnother();
        latestFault();
        CHECK.finish();
    }

    // ---- TOKENS: blanks (32, 10) aside, words a .. z, numbers, the sign ;

    private static boolean isLetter(int b) {
        return b >= 'a' && b <= 'z';
    }

    private static boolean isDigit(int b) {
        return b >= '0' && b <= '9';
    }

    private static void bytesBetweenTokens() {
        for (int b = 0; b < 256; b++) {
            String text = "wide" + (char) b + "4 rows 1;row f;";
            if (b == 32 || b == 10) {
                CHECK.fine(Check.PATTERN, text, 4);
            } else if (isLetter(b)) {
                CHECK.faulty(Check.PATTERN, text, 1, 0);
            } else if (b == '0' || b == '1') {
                CHECK.fine(Check.PATTERN, text, b == '0' ? 4 : 14);
            } else {
                CHECK.faulty(Check.PATTERN, text, isDigit(b) ? 2 : 1, 4);
            }
        }
    }

    private static void bytesBehindAll() {
        String[] texts = {"wide 4 rows 1;row f;", "hand f 1 h 1 m 1;", "way over f;", "stop if 1 more 1;", "wash;"};
        int[] answers = {4, 0, 0, 1, 1};
        for (int kind = Check.PATTERN; kind <= Check.LOSSES; kind++) {
            for (int b = 0; b < 256; b++) {
                if (b == 32 || b == 10) {
                    CHECK.fine(kind, texts[kind] + (char) b, answers[kind]);
                    CHECK.fine(kind, (char) b + texts[kind], answers[kind]);
                } else {
                    CHECK.faulty(kind, texts[kind] + (char) b, 1, texts[kind].length());
                    CHECK.faulty(kind, (char) b + texts[kind], 1, 0);
                }
            }
        }
    }

    private static void bytesInWords() {
        for (int b = 0; b < 256; b++) {
            String text = "wide 2 rows 1;row f" + (char) b + ";";
            if ("kpfhm".indexOf(b) >= 0) {
                CHECK.fine(Check.PATTERN, text, b == 'k' || b == 'p' ? 1 : 2);
            } else if (b == 32 || b == 10) {
                CHECK.fine(Check.PATTERN, text, 2);
            } else if (isLetter(b)) {
                CHECK.faulty(Check.PATTERN, text, 1, 18);
            } else {
                CHECK.faulty(Check.PATTERN, text, 1, b == ';' ? 20 : 19);
            }
        }
    }

    private static void longestTokens() {
        CHECK.fine(Check.HAND, "hand f1h2m3;", 0);
        CHECK.fine(Check.LOSSES, "moth9from9;lose rows0to0;", 2);
        CHECK.fine(Check.WATCHER, "stop if1plus1more1and1less1;", 1);
        CHECK.faulty(Check.WATCHER, "stopif 1 more 1;", 1, 0);
        CHECK.faulty(Check.WATCHER, "stop if purlsmore 1;", 1, 8);
        CHECK.faulty(Check.WATCHER, "stop if 1more1and1;", 1, 18);
        CHECK.faulty(Check.HAND, "handf 1 h 1 m 1;", 1, 0);
        CHECK.faulty(Check.HAND, "hand fh 1 m 1;", 1, 5);
        CHECK.faulty(Check.HAND, "hand f 10 0 h 1 m 1;", 1, 10);
        CHECK.faulty(Check.WAY, "way overf;", 1, 4);
        CHECK.faulty(Check.WAY, "way over fstep 2;", 1, 9);
        CHECK.faulty(Check.WAY, "way over f turntop;", 1, 11);
    }

    // ---- PATTERN

    private static void wideAndRows() {
        for (int n = 0; n <= 40; n++) {
            boolean taken = n >= 1 && n <= 16;
            String wide = "wide " + n + " rows 1;row f;";
            String rows = "wide 1 rows " + n + ";row f;";
            if (taken) {
                CHECK.fine(Check.PATTERN, wide, n);
                CHECK.fine(Check.PATTERN, rows, n);
            } else {
                CHECK.faulty(Check.PATTERN, wide, 2, 5);
                CHECK.faulty(Check.PATTERN, rows, 2, 12);
            }
        }
        CHECK.fine(Check.PATTERN, "wide 16 rows 16;row m;", 256);
        CHECK.fine(Check.PATTERN, "wide 16 rows 16;row kp;", 0);
    }

    /** Numbers that would be small ones, were they cut to 8, 16, 32 or 64 bits. */
    private static void longNumbers() {
        String[] big = {"257", "260", "65537", "65540", "2147483647", "2147483648", "4294967297", "4294967300",
            "9223372036854775807", "18446744073709551617", "18446744073709551620", "1" + "0".repeat(500) + "1",
            "100000000000", "10004", "20003", "99999"};
        for (String number : big) {
            CHECK.faulty(Check.PATTERN, "wide " + number + " rows 1;row f;", 2, 5);
            CHECK.faulty(Check.PATTERN, "wide 1 rows " + number + ";row f;", 2, 12);
            CHECK.faulty(Check.HAND, "hand f " + number + " h 1 m 1;", 2, 7);
            CHECK.faulty(Check.WAY, "way over f step " + number + ";", 2, 16);
            CHECK.faulty(Check.WAY, "way over f guard " + number + ";", 2, 17);
            CHECK.faulty(Check.LOSSES, "moth " + number + " from 1;", 2, 5);
            CHECK.faulty(Check.LOSSES, "lose rows 0 to " + number + ";", 2, 15);
        }
        CHECK.faulty(Check.WATCHER, "stop if 65537 more 1;", 2, 8);
        CHECK.faulty(Check.WATCHER, "stop if 4294967297 more 1;", 2, 8);
        CHECK.faulty(Check.LOSSES, "moth 1 from 4294967297;", 2, 12);
        // Digits ahead that are 0 make no number larger.
        CHECK.fine(Check.PATTERN, "wide " + "0".repeat(550) + "16 rows 1;row f;", 16);
        CHECK.faulty(Check.PATTERN, "wide " + "0".repeat(550) + "17 rows 1;row f;", 2, 5);
        CHECK.faulty(Check.PATTERN, "wide " + "0".repeat(550) + " rows 1;row f;", 2, 5);
    }

    private static void toldRows() {
        for (int n = 0; n <= 12; n++) {
            String text = "wide 1 rows 16;" + "row f;".repeat(n);
            if (n == 0) {
                CHECK.faulty(Check.PATTERN, text, 1, 15);
            } else if (n <= 8) {
                CHECK.fine(Check.PATTERN, text, 16);
            } else {
                CHECK.faulty(Check.PATTERN, text, 3, 15 + 6 * 8);
            }
        }
        // Eight may be told though there are fewer rows.
        CHECK.fine(Check.PATTERN, "wide 1 rows 1;" + "row f;".repeat(8), 1);
        CHECK.faulty(Check.PATTERN, "wide 1 rows 1;" + "row f;".repeat(9), 3, 62);
    }

    private static void signs() {
        CHECK.faulty(Check.PATTERN, "wide 16 rows 1;row;", 1, 18);
        for (int n = 1; n <= 30; n++) {
            String text = "wide 16 rows 1;row " + "f".repeat(n) + ";";
            if (n <= 12) {
                CHECK.fine(Check.PATTERN, text, 16);
            } else {
                CHECK.faulty(Check.PATTERN, text, 1, 19);
            }
        }
        for (int i = 0; i < LETTERS.length(); i++) {
            char letter = LETTERS.charAt(i);
            boolean taken = "kpfhm".indexOf(letter) >= 0;
            for (String word : new String[] {"" + letter, "kkkkkkkkkkk" + letter, letter + "kkk"}) {
                String text = "wide 16 rows 1;row " + word + ";";
                StitchSays x = new StitchSays();
                CHECK.due(text, Math.min(0, Check.pattern(x, text)), taken ? 0 : -4);
                CHECK.due("place of " + text, x.fault(1), taken ? -1 : 19);
            }
        }
    }

    /** "told ones again from the first on", "its SIGNS, again from the first on". */
    private static void rowsAndColumnsAgain() {
        for (int wide = 1; wide <= 16; wide++) {
            for (int signs = 1; signs <= 12; signs++) {
                StitchSays x = new StitchSays();
                int due = (wide + signs - 1) / signs;
                CHECK.due("FREE of " + wide + " by " + signs,
                    Check.pattern(x, "wide " + wide + " rows 1;row f" + "k".repeat(signs - 1) + ";"), due);
                for (int column = 0; column < wide; column++) {
                    CHECK.due("sort(0, " + column + ")", x.sort(0, column), column % signs == 0 ? 2 : 0);
                }
                CHECK.due("sort behind", x.sort(0, wide), -1);
            }
        }
        for (int rows = 1; rows <= 16; rows++) {
            for (int told = 1; told <= 8; told++) {
                StitchSays x = new StitchSays();
                CHECK.due("FREE of " + rows + " by " + told,
                    Check.pattern(x, "wide 1 rows " + rows + ";row m;" + "row p;".repeat(told - 1)), (rows + told - 1) / told);
                for (int row = 0; row < rows; row++) {
                    CHECK.due("sort(" + row + ", 0)", x.sort(row, 0), row % told == 0 ? 4 : 1);
                }
                CHECK.due("sort above", x.sort(rows, 0), -1);
            }
        }
    }

    // ---- HAND, WAY

    private static void shares() {
        for (int n = 0; n <= 120; n++) {
            String[] texts = {"hand f " + n + " h 0 m 0;", "hand f 0 h " + n + " m 0;", "hand f 0 h 0 m " + n + ";"};
            for (int i = 0; i < 3; i++) {
                if (n <= 100) {
                    CHECK.fine(Check.HAND, texts[i], 0);
                } else {
                    CHECK.faulty(Check.HAND, texts[i], 2, 7 + 4 * i);
                }
            }
        }
        CHECK.fine(Check.HAND, "hand f 100 h 100 m 100;", 0);
    }

    /** Every word of up to four of f, h, m, k: "each once". */
    private static void sortsOfWays() {
        for (int n = 0; n < 5 * 5 * 5 * 5; n++) {
            String word = "";
            boolean once = true;
            for (int rest = n; rest > 0; rest /= 5) {
                String sign = "_fhmk".substring(rest % 5, rest % 5 + 1).replace("_", "");
                once &= !word.contains(sign) || sign.isEmpty();
                word += sign;
            }
            String text = "way over " + word + ";";
            if (word.isEmpty() || !once || word.contains("k")) {
                CHECK.faulty(Check.WAY, text, 1, 9);
            } else {
                CHECK.fine(Check.WAY, text, 0);
            }
        }
        for (int i = 0; i < LETTERS.length(); i++) {
            char letter = LETTERS.charAt(i);
            if ("fhm".indexOf(letter) >= 0) {
                CHECK.fine(Check.WAY, "way over " + letter + ";", 0);
            } else {
                CHECK.faulty(Check.WAY, "way over " + letter + ";", 1, 9);
            }
        }
    }

    private static void numbersOfWays() {
        StitchSays x = new StitchSays();
        Check.pattern(x, "wide 16 rows 16;row f;");
        for (int n = 0; n <= 20; n++) {
            x.end(0);
            boolean step = n >= 1 && n <= 9;
            CHECK.due("step " + n, Check.way(x, 0, "way over f step " + n + ";"), step ? 256 / n : -4);
            CHECK.due("FAULT of step " + n, x.fault(0), step ? 0 : 2);
            CHECK.due("its place", x.fault(1), step ? -1 : 16);
            boolean group = n >= 1 && n <= 5;
            CHECK.due("group " + n, Check.way(x, 0, "way over f group " + n + ";"), group ? 256 / n : -4);
            CHECK.due("FAULT of group " + n, x.fault(0), group ? 0 : 2);
            CHECK.due("its place", x.fault(1), group ? -1 : 17);
            boolean guard = n == 1 || n == 3 || n == 5;
            CHECK.due("guard " + n, Check.way(x, 0, "way over f guard " + n + ";"), guard ? 256 / n : -4);
            CHECK.due("FAULT of guard " + n, x.fault(0), guard ? 0 : 2);
            CHECK.due("its place", x.fault(1), guard ? -1 : 17);
        }
        CHECK.due("without", Check.way(x, 0, "way over f;"), 256);
        CHECK.due("all at once", Check.way(x, 0, "way over f step 9 group 5 guard 5;"), 1);
    }

    /** Each of the five may be there or not, in this order alone, and once. */
    private static void optionsOfWays() {
        String[] options = {" step 1", " group 1", " guard 1", " turn", " top"};
        for (int set = 0; set < 32; set++) {
            StringBuilder text = new StringBuilder("way over f");
            for (int i = 0; i < 5; i++) {
                text.append((set >> i & 1) == 1 ? options[i] : "");
            }
            CHECK.fine(Check.WAY, text + ";", 0);
            CHECK.faulty(Check.WAY, text.toString(), 1, text.length());
        }
        for (int first = 0; first < 5; first++) {
            for (int second = 0; second <= first; second++) {
                String ahead = "way over f" + options[first];
                CHECK.faulty(Check.WAY, ahead + options[second] + ";", 1, ahead.length() + 1);
            }
        }
        for (int i = 0; i < 3; i++) {
            String name = "way over f" + options[i].replace(" 1", "");
            CHECK.faulty(Check.WAY, name + ";", 1, name.length());
            CHECK.faulty(Check.WAY, name + " turn;", 1, name.length() + 1);
        }
        CHECK.faulty(Check.WAY, "way over f turn 1;", 1, 16);
        CHECK.faulty(Check.WAY, "way over f top 1;", 1, 15);
    }

    // ---- WATCHER, LOSSES

    private static void numbersOfLines() {
        String[] losses = {"wash;", "lose rows 1 to 2;", "lose columns 0 to 0;", "moth 2 from 3;"};
        for (int n = 0; n <= 16; n++) {
            String line = "stop if free less 5;";
            if (n <= 12) {
                CHECK.fine(Check.WATCHER, line.repeat(n), n);
            } else {
                CHECK.faulty(Check.WATCHER, line.repeat(n), 3, 12 * line.length());
            }
            for (String loss : losses) {
                if (n <= 12) {
                    CHECK.fine(Check.LOSSES, loss.repeat(n), n);
                } else {
                    CHECK.faulty(Check.LOSSES, loss.repeat(n), 3, 12 * loss.length());
                }
            }
        }
        // A 13th is one by its first TOKEN, whatever follows.
        for (String first : new String[] {"lose", "moth", "wash"}) {
            CHECK.faulty(Check.LOSSES, "wash;".repeat(12) + "\n" + first, 3, 61);
            CHECK.faulty(Check.LOSSES, "wash;".repeat(12) + first + " 7;", 3, 60);
        }
        CHECK.faulty(Check.WATCHER, "stop if 1 more 1;".repeat(12) + " \n stop 7", 3, 207);
        // A fault ahead of it is ahead of it.
        CHECK.faulty(Check.LOSSES, "wash;".repeat(11) + "moth 0 from 1;wash;wash;", 2, 60);
        CHECK.faulty(Check.WATCHER, "stop if 1 more 1;".repeat(11) + "stop if 1 more 1000;stop", 2, 202);
    }

    private static void partsOfTests() {
        for (int n = 0; n <= 1100; n += n < 5 || n > 990 ? 1 : 5) {
            String left = "stop if " + n + " more 1;";
            String right = "stop if 1 less " + n + ";";
            String behind = "stop if 1 times 1 plus " + n + " same 1;";
            if (n <= 999) {
                CHECK.fine(Check.WATCHER, left, 1);
                CHECK.fine(Check.WATCHER, right, 1);
                CHECK.fine(Check.WATCHER, behind, 1);
            } else {
                CHECK.faulty(Check.WATCHER, left, 2, 8);
                CHECK.faulty(Check.WATCHER, right, 2, 15);
                CHECK.faulty(Check.WATCHER, behind, 2, 23);
            }
        }
        String[] parts = {"purls", "holes", "slips", "runs", "most", "least", "lost", "free"};
        for (String part : parts) {
            CHECK.fine(Check.WATCHER, "stop if " + part + " same " + part + ";", 1);
            CHECK.faulty(Check.WATCHER, "stop if " + part + "s same 1;", 1, 8);
            CHECK.faulty(Check.WATCHER, "stop if " + part.substring(1) + " same 1;", 1, 8);
            CHECK.faulty(Check.WATCHER, "stop if " + part.substring(0, part.length() - 1) + " same 1;", 1, 8);
        }
        for (String other : new String[] {"stop", "if", "and", "more", "less", "same", "plus", "minus", "times", "rows", "columns"}) {
            CHECK.faulty(Check.WATCHER, "stop if " + other + " same 1;", 1, 8);
        }
        for (String sign : new String[] {"more", "less", "same"}) {
            CHECK.fine(Check.WATCHER, "stop if 1 " + sign + " 1;", 1);
            CHECK.faulty(Check.WATCHER, "stop if 1 " + sign + ";", 1, 14);
            CHECK.faulty(Check.WATCHER, "stop if " + sign + " 1;", 1, 8);
            CHECK.faulty(Check.WATCHER, "stop if 1 " + sign + " 1 " + sign + " 1;", 1, 17);
        }
        for (String link : new String[] {"plus", "minus", "times"}) {
            CHECK.fine(Check.WATCHER, "stop if 1 " + link + " 1 same 1 " + link + " 1;", 1);
            CHECK.faulty(Check.WATCHER, "stop if 1 " + link + ";", 1, 10 + link.length());
            CHECK.faulty(Check.WATCHER, "stop if 1 same 1 " + link + ";", 1, 17 + link.length());
            CHECK.faulty(Check.WATCHER, "stop if 1 " + link + " 1;", 1, 12 + link.length());
        }
        CHECK.faulty(Check.WATCHER, "stop if 1 same 1 and;", 1, 20);
        CHECK.faulty(Check.WATCHER, "stop if 1 same 1 and 1;", 1, 22);
        CHECK.faulty(Check.WATCHER, "stop if 1 and 1 same 1;", 1, 10);
        CHECK.faulty(Check.WATCHER, ";", 1, 0);
    }

    private static void stretches() {
        for (String kind : new String[] {"rows", "columns"}) {
            String ahead = "lose " + kind + " ";
            for (int first = 0; first <= 18; first++) {
                for (int second = 0; second <= 18; second++) {
                    String text = ahead + first + " to " + second + ";";
                    if (first > 15) {
                        CHECK.faulty(Check.LOSSES, text, 2, ahead.length());
                    } else if (second < first || second > 15) {
                        CHECK.faulty(Check.LOSSES, text, 2, (ahead + first + " to ").length());
                    } else {
                        CHECK.fine(Check.LOSSES, text, 1);
                    }
                }
            }
        }
    }

    private static void moths() {
        for (int n = 0; n <= 300; n++) {
            if (n >= 1 && n <= 99) {
                CHECK.fine(Check.LOSSES, "moth " + n + " from 0;", 1);
            } else {
                CHECK.faulty(Check.LOSSES, "moth " + n + " from 0;", 2, 5);
            }
            if (n <= 255) {
                CHECK.fine(Check.LOSSES, "moth 1 from " + n + ";", 1);
            } else {
                CHECK.faulty(Check.LOSSES, "moth 1 from " + n + ";", 2, 12);
            }
        }
    }

    // ---- WORDS

    private static void bytesOfWords() {
        StitchSays made = wordsCloth();
        CHECK.due("none at all", made.put(0, 0), -4);
        CHECK.due("their FAULT", made.fault(0), 1);
        CHECK.due("its place", made.fault(1), 0);
        for (int b = 0; b < 256; b++) {
            boolean taken = b == 32 || isLetter(b);
            for (int place = 0; place < 3; place++) {
                StitchSays x = wordsCloth();
                String words = "aa".substring(0, place) + (char) b + "bb".substring(place);
                int answer = Check.put(x, 0, 0, words);
                CHECK.due("put of byte " + b, answer < 0 ? answer : 0, taken ? 0 : -4);
                CHECK.due("its FAULT", x.fault(0), taken ? 0 : 1);
                CHECK.due("its place", x.fault(1), taken ? -1 : place);
                CHECK.due("bytes then", x.count(7), 0);
                CHECK.due("read", x.read(0, 0), taken ? 3 : -1);
                CHECK.due("the byte", x.letter(place), taken ? b : -1);
            }
        }
    }

    private static StitchSays wordsCloth() {
        StitchSays x = new StitchSays();
        Check.pattern(x, "wide 10 rows 2;row f;");
        Check.way(x, 0, "way over f;");
        x.knit(0, 0);
        return x;
    }

    // ---- FAULTS

    private static void theFirstByItsPlace() {
        CHECK.faulty(Check.PATTERN, "wide 17 rows 17;row x;", 2, 5);
        CHECK.faulty(Check.PATTERN, "wide 16 rows 17;row x;", 2, 13);
        CHECK.faulty(Check.PATTERN, "wide 16 rows 16;row x;", 1, 20);
        CHECK.faulty(Check.PATTERN, "wide 17 ?", 2, 5);
        CHECK.faulty(Check.PATTERN, "wide ? 17", 1, 5);
        CHECK.faulty(Check.HAND, "hand f 101 g 1", 2, 7);
        CHECK.faulty(Check.HAND, "hand g 101 h 1", 1, 5);
        CHECK.faulty(Check.WAY, "way over ff step 10;", 1, 9);
        CHECK.faulty(Check.WAY, "way over f step 10 group 6;", 2, 16);
        CHECK.faulty(Check.WAY, "way over f step 9 group 6 guard 2;", 2, 24);
        CHECK.faulty(Check.WATCHER, "stop if 1000 more 1000;", 2, 8);
        CHECK.faulty(Check.WATCHER, "stop if 1 mor 1000;", 1, 10);
        CHECK.faulty(Check.LOSSES, "moth 100 from 256;", 2, 5);
        CHECK.faulty(Check.LOSSES, "lose rows 16 to 3", 2, 10);
        CHECK.faulty(Check.LOSSES, "lose rows 15 to 14", 2, 16);
    }

    /** Where more than one FAULT stands at a place, the one of the least number. */
    private static void ofOnePlaceTheLeast() {
        CHECK.faulty(Check.PATTERN, "17 rows 3;row k;", 1, 0);
        CHECK.faulty(Check.PATTERN, "wide 4 99 3;row k;", 1, 7);
        CHECK.faulty(Check.PATTERN, "wide 4 rows 3;row 99;", 1, 18);
        CHECK.faulty(Check.PATTERN, "wide 4 rows 3;" + "row k;".repeat(8) + "99;", 1, 62);
        CHECK.faulty(Check.PATTERN, "wide 4 rows 3;" + "row k;".repeat(8) + "rows k;", 1, 62);
        CHECK.faulty(Check.PATTERN, "wide 4 rows 3;" + "row k;".repeat(8) + ";", 1, 62);
        CHECK.faulty(Check.HAND, "hand 101;", 1, 5);
        CHECK.faulty(Check.WATCHER, "stop if 1 1000 1;", 1, 10);
        CHECK.faulty(Check.WATCHER, "stop if 1 same 1;".repeat(12) + "1000", 1, 204);
        CHECK.faulty(Check.WATCHER, "stop if 1 same 1;".repeat(12) + "if", 1, 204);
        CHECK.faulty(Check.LOSSES, "wash;".repeat(12) + "256", 1, 60);
        CHECK.faulty(Check.LOSSES, "wash;".repeat(12) + "lost", 1, 60);
        CHECK.faulty(Check.LOSSES, "lose 16", 1, 5);
        // SIGNS with another letter that are too many, too: one word, one FAULT.
        CHECK.faulty(Check.PATTERN, "wide 4 rows 3;row kkkkkkkkkkkkkx;", 1, 18);
    }

    /**
     * Cut off anywhere, a text ends too early: the place is that of a word that is not whole, or of the end.
     * Its words stand apart by blanks, and each beginning of its numbers is within their bounds.
     */
    private static void theEndIsAPlace() {
        cutOff(Check.PATTERN, "wide 16\nrows 12 ; row ff ; row hmkp ;", "wide rows row ;");
        cutOff(Check.HAND, "hand f 30 h 4 m 100 ;", "hand f h m ;");
        cutOff(Check.WAY, "way over fhm step 3 group 5 guard 3 turn top ;", "way over step group guard turn top ;");
        cutOff(Check.WATCHER, "stop if 5 plus 67 more 3 and 1 same 2 times 3 ; stop if 1 less 2 ;",
            "stop if plus more and same times less ;");
        cutOff(Check.LOSSES, "lose rows 1 to 15 ; lose columns 1 to 12 ; moth 9 from 255 ; wash ;",
            "lose rows to columns moth from wash ;");
    }

    private static void cutOff(int kind, String text, String keywords) {
        for (int cut = 0; cut < text.length(); cut++) {
            String begun = text.substring(0, cut);
            int from = Math.max(begun.lastIndexOf(' '), begun.lastIndexOf('\n')) + 1;
            String last = begun.substring(from);
            String whole = text.substring(from).split("[ \n]")[0];
            boolean isKeyword = (" " + keywords + " ").contains(" " + whole + " ");
            boolean isCut = isKeyword && !last.isEmpty() && !last.equals(whole);
            int lines = begun.length() - begun.replace(";", "").length();
            boolean isWhole = begun.trim().endsWith(";") || begun.trim().isEmpty();
            if (isWhole && (kind >= Check.WATCHER || kind == Check.PATTERN && lines >= 2)) {
                StitchSays x = new StitchSays();
                CHECK.due("'" + begun + "' is whole", Check.tell(x, kind, begun) >= 0 ? 0 : 1, 0);
            } else {
                CHECK.faulty(kind, begun, 1, isCut ? from : cut);
            }
        }
    }

    // ---- the TAPE

    private static void feeds() {
        StitchSays x = new StitchSays();
        for (int n = 1; n <= 30; n++) {
            CHECK.due("feed " + n, x.feed(n, n, n, n, n), 20 * n);
            CHECK.due("bytes", x.count(7), 20 * n);
        }
        for (int n = 0; n < 3; n++) {
            CHECK.due("feed of a full TAPE", x.feed(0, 0, 0, 0, 0), -1);
            CHECK.due("bytes", x.count(7), 600);
        }
        for (int bytes = 599; bytes > 580; bytes--) {
            CHECK.due("end(" + bytes + ")", x.end(bytes), bytes);
            CHECK.due("feed behind " + bytes, x.feed(0, 0, 0, 0, 0), -1);
            CHECK.due("bytes", x.count(7), bytes);
        }
        CHECK.due("end(580)", x.end(580), 580);
        CHECK.due("feed behind 580", x.feed(0, 0, 0, 0, 0), 600);
        CHECK.due("end(579)", x.end(579), 579);
        CHECK.due("feed behind 579", x.feed(0, 0, 0, 0, 0), 599);
        CHECK.due("end(0)", x.end(0), 0);
        CHECK.due("feed behind none", x.feed(0, 0, 0, 0, 0), 20);
        // Four bytes of each number, the highest first, behind what is there.
        x.end(0);
        x.feed(0x68616e64, 0x20662031, 0x30302068, 0x20302058, 0x58585858);
        CHECK.due("end(15)", x.end(15), 15);
        CHECK.due("feed", x.feed(0x206d2030, 0x3b202020, 0x20202020, 0x20202020, 0x20202020), 35);
        CHECK.due("hand f 100 h 0 m 0;", x.hand(), 0);
        // All bits of a number are in its bytes, the sign's too: byte 247 is not w.
        x.feed(0xf7696465, 0x20322072, 0x6f777320, 0x333b726f, 0x77206b3b);
        CHECK.due("byte 247", x.pattern(), -4);
        CHECK.due("its place", x.fault(1), 0);
        x.feed(0x77696465, 0x20322072, 0x6f777320, 0x333b726f, 0x77206b3b);
        CHECK.due("byte 119", x.pattern(), 0);
    }

    private static void ends() {
        StitchSays x = new StitchSays();
        x.feed(0x77696465, 0x20322072, 0x6f777320, 0x333b726f, 0x77206b3b);
        for (int n = 20; n >= 0; n--) {
            CHECK.due("end(" + (n + 1) + ") of " + n, x.end(n + 1), -1);
            CHECK.due("end(-1)", x.end(-1), -1);
            CHECK.due("bytes", x.count(7), n);
            CHECK.due("end(" + n + ")", x.end(n), n);
            CHECK.due("bytes", x.count(7), n);
            if (n > 0) {
                CHECK.due("end(" + (n - 1) + ")", x.end(n - 1), n - 1);
            }
        }
        CHECK.due("end(0) of none", x.end(0), 0);
        // What was cut off does not come back.
        x.feed(0x77696465, 0x20322072, 0x6f777320, 0x333b726f, 0x77206b3b);
        x.end(16);
        CHECK.due("end(20)", x.end(20), -1);
        CHECK.due("pattern of 16 bytes", x.pattern(), -4);
        CHECK.due("its place", x.fault(1), 14);
    }

    private static void inPlaceOfAnother() {
        StitchSays x = new StitchSays();
        for (int free = 0; free <= 16; free++) {
            String signs = free == 0 ? "k" : "f";
            Check.pattern(x, "wide " + Math.max(1, free) + " rows 1;row " + signs + ";");
            CHECK.due("FREE", x.count(2), free);
            CHECK.due("CLOTHS", x.count(6), 0);
            for (int c = 0; c < 4; c++) {
                x.knit(c, 0);
                CHECK.due("CLOTHS", x.count(6), c + 1);
            }
        }
        for (int k = 0; k < 6; k++) {
            CHECK.due("WAY " + k, Check.way(x, k, "way over f step " + (k + 1) + ";"), 16 / (k + 1));
            CHECK.due("WAYS", x.count(3), k + 1);
        }
        for (int k = 0; k < 6; k++) {
            CHECK.due("room(" + k + ")", x.room(k), 16 / (k + 1));
            CHECK.due("in place of WAY " + k, Check.way(x, k, "way over h;"), 0);
            CHECK.due("room(" + k + ")", x.room(k), 0);
            CHECK.due("WAYS", x.count(3), 6);
        }
        for (int n = 12; n >= 0; n -= 4) {
            CHECK.due("LINES", Check.watcher(x, "stop if 1 same 1;".repeat(n)), n);
            CHECK.due("LINES of the WATCHER", x.count(4), n);
            CHECK.due("stops", x.stops(0), n == 0 ? -1 : 0);
            CHECK.due("LOSSES", Check.losses(x, "lose rows 0 to 0;".repeat(n)), n);
            CHECK.due("LINES of LOSSES", x.count(5), n);
        }
        CHECK.due("no LOSSES", x.lose(0), 0);
    }

    /** Promise 9: of the latest that read the TAPE, not of what did not read it. */
    private static void latestFault() {
        StitchSays x = new StitchSays();
        CHECK.due("fault(0) ahead of any", x.fault(0), 0);
        CHECK.due("fault(1) ahead of any", x.fault(1), -1);
        for (int kind = Check.PATTERN; kind <= Check.LOSSES; kind++) {
            CHECK.due("a FAULT", Check.tell(x, kind, " x"), -4);
            CHECK.due("fault(0)", x.fault(0), 1);
            CHECK.due("fault(1)", x.fault(1), 1);
            Check.tape(x, "?");
            x.way(6);
            x.put(4, 0);
            x.put(0, 0);
            x.end(0);
            CHECK.due("fault(0), nothing was read since", x.fault(0), 1);
            CHECK.due("fault(1), nothing was read since", x.fault(1), 1);
            String[] fine = {"wide 10 rows 1;row f;", "hand f 0 h 0 m 0;", "way over f;", "", ""};
            CHECK.due("no FAULT", Check.tell(x, kind, fine[kind]) >= 0 ? 0 : 1, 0);
            CHECK.due("fault(0)", x.fault(0), 0);
            CHECK.due("fault(1)", x.fault(1), -1);
        }
        x.knit(0, 0);
        CHECK.due("words", Check.put(x, 0, 0, "a?"), -4);
        CHECK.due("fault(0) of words", x.fault(0), 1);
        CHECK.due("fault(1) of words", x.fault(1), 1);
        CHECK.due("too many words", Check.put(x, 0, 0, "aa"), -3);
        CHECK.due("fault(0) of words without room", x.fault(0), 0);
        CHECK.due("fault(1) of words without room", x.fault(1), -1);
    }
}
