/** What the tests share: texts put on the TAPE, and answers held against those that are due. */
final class Check {
    /** The texts that are read by a call of their own. */
    static final int PATTERN = 0;
    static final int HAND = 1;
    static final int WAY = 2;
    static final int WATCHER = 3;
    static final int LOSSES = 4;

    private final String name;
    private int wrong;
    private int made;

    Check(String name) {
        this.name = name;
    }

    void due(String what, long got, long want) {
        made++;
        if (got != want) {
            wrong++;
            System.out.println(name + ": " + what + " answered " + got + ", due is " + want);
        }
    }

    void finish() {
        System.out.println(name + ": " + made + " answers, " + wrong + " wrong");
        if (wrong != 0 || made == 0) {
            System.exit(1);
        }
    }

    /** The text alone stands on the TAPE then; its characters are bytes. */
    static void tape(StitchSays x, String text) {
        x.end(0);
        int[] numbers = new int[5];
        for (int i = 0; i < text.length(); i += 20) {
            for (int n = 0; n < 5; n++) {
                numbers[n] = 0;
                for (int b = 0; b < 4; b++) {
                    int at = i + 4 * n + b;
                    numbers[n] = numbers[n] << 8 | (at < text.length() ? text.charAt(at) & 255 : 0);
                }
            }
            x.feed(numbers[0], numbers[1], numbers[2], numbers[3], numbers[4]);
        }
        if (x.end(text.length()) != text.length()) {
            throw new IllegalStateException("the TAPE can't have " + text.length() + " bytes");
        }
    }

    /** A text of a kind is read: a WAY as WAY 0. */
    static int tell(StitchSays x, int kind, String text) {
        switch (kind) {
            case PATTERN:
                return pattern(x, text);
            case HAND:
                return hand(x, text);
            case WAY:
                return way(x, 0, text);
            case WATCHER:
                return watcher(x, text);
            default:
                return losses(x, text);
        }
    }

    /** A new object takes the text. */
    void fine(int kind, String text, int want) {
        told(kind, text, want, 0, -1);
    }

    /** A new object finds a FAULT at a place. */
    void faulty(int kind, String text, int fault, int place) {
        told(kind, text, -4, fault, place);
    }

    private void told(int kind, String text, int want, int fault, int place) {
        StitchSays x = new StitchSays();
        due("'" + text + "'", tell(x, kind, text), want);
        due("fault(0) of '" + text + "'", x.fault(0), fault);
        due("fault(1) of '" + text + "'", x.fault(1), place);
        due("bytes behind '" + text + "'", x.count(7), 0);
    }

    static int pattern(StitchSays x, String text) {
        tape(x, text);
        return x.pattern();
    }

    static int hand(StitchSays x, String text) {
        tape(x, text);
        return x.hand();
    }

    static int way(StitchSays x, int k, String text) {
        tape(x, text);
        return x.way(k);
    }

    static int watcher(StitchSays x, String text) {
        tape(x, text);
        return x.watcher();
    }

    static int losses(StitchSays x, String text) {
        tape(x, text);
        return x.losses();
    }

    static int put(StitchSays x, int c, int k, String words) {
        tape(x, words);
        return x.put(c, k);
    }

    /** A CLOTH as signs, row by row: . plain, p purl, o hole, s slip, # lost. */
    static String cloth(StitchSays x, int c) {
        StringBuilder signs = new StringBuilder();
        for (int row = 0; row < x.count(0); row++) {
            signs.append(row == 0 ? "" : "/");
            for (int column = 0; column < x.count(1); column++) {
                int stitch = x.at(c, row, column);
                signs.append(stitch < 0 ? '?' : ".pos#".charAt(stitch));
            }
        }
        return signs.toString();
    }

    /** What was read latest, as text. */
    static String letters(StitchSays x) {
        StringBuilder text = new StringBuilder();
        for (int i = 0; i < x.count(8); i++) {
            text.append((char) x.letter(i));
        }
        return text.toString();
    }

    void dueText(String what, String got, String want) {
        made++;
        if (!got.equals(want)) {
            wrong++;
            System.out.println(name + ": " + what + " is '" + got + "', due is '" + want + "'");
        }
    }

    /** Brings the first FREE places of a CLOTH into a known shape by SLOT 3: 0 plain, 1 not. */
    static int lay(StitchSays x, int c, String ones) {
        x.row(3, 0, ones.length());
        for (int i = 0; i < ones.length(); i++) {
            x.write(3, i, ones.charAt(i) == '1' ? 1 : 0);
        }
        return x.lay(3, c);
    }
}
