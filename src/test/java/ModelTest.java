import java.util.Random;

/** All promises: runs of chance, 512 calls each, in which the class must answer as the Model does. */
public final class ModelTest {
    private static final Check CHECK = new Check("ModelTest");
    private static final int RUNS = 400;
    private static final int CALLS = 512;

    private final Random random;
    private final int run;
    private final StringBuilder told = new StringBuilder();
    private final StitchSays x = new StitchSays();
    private final Model m = new Model();
    private int calls;
    private boolean wrong;

    private ModelTest(int run) {
        this.run = run;
        random = new Random(run);
    }

    public static void main(String[] args) {
        int failed = 0;
        for (int run = 0; run < RUNS && failed < 5; run++) {
            ModelTest test = new ModelTest(run);
            try {
                test.go();
            } catch (RuntimeException e) {
                e.printStackTrace(System.out);
                CHECK.due("run " + run + " threw", 1, 0);
                test.wrong = true;
            }
            failed += test.wrong ? 1 : 0;
        }
        CHECK.finish();
    }

    private void go() {
        if (run % 4 != 0) {
            start();
        }
        while (calls < CALLS - 60 && !wrong) {
            step();
        }
        while (calls < CALLS && !wrong) {
            due("count", x.count(6), m.count(6));
        }
    }

    private void due(String call, int got, int want) {
        calls++;
        if (got != want) {
            wrong = true;
            System.out.println("run " + run + ":" + told);
        }
        told.append("\n  ").append(call).append(" -> ").append(got);
        CHECK.due("run " + run + ", call " + calls + ", " + call, got, want);
    }

    // ---- texts of chance

    private int upTo(int n) {
        return random.nextInt(n + 1);
    }

    private String pick(String... texts) {
        return texts[random.nextInt(texts.length)];
    }

    private String word(String signs, int most) {
        StringBuilder word = new StringBuilder();
        for (int n = 1 + upTo(most - 1); n > 0; n--) {
            word.append(signs.charAt(random.nextInt(signs.length())));
        }
        return word.toString();
    }

    private String patternText() {
        boolean big = random.nextInt(4) > 0;
        StringBuilder text = new StringBuilder("wide " + (1 + upTo(big ? 15 : 4)) + " rows " + (1 + upTo(big ? 15 : 4)) + ";");
        for (int n = 1 + upTo(random.nextInt(5) == 0 ? 7 : 1); n > 0; n--) {
            text.append("row ").append(word(pick("f", "fhm", "fffh", "kpfhm", "fk", "fhmp"), pick("a", "b").equals("a") ? 3 : 12)).append(";");
        }
        return text.toString();
    }

    private String handText() {
        return "hand f " + share() + " h " + share() + "\nm " + share() + ";";
    }

    private int share() {
        return random.nextInt(3) == 0 ? 50 * upTo(2) : upTo(100);
    }

    private String wayText() {
        return "way over " + pick("f", "f", "h", "m", "fh", "fm", "hm", "fhm", "mfh")
            + (random.nextInt(4) == 0 ? " step " + (1 + upTo(8)) : "")
            + (random.nextInt(4) == 0 ? " group " + (1 + upTo(4)) : "")
            + (random.nextInt(4) == 0 ? " guard " + pick("1", "3", "5") : "")
            + pick("", " turn") + pick("", " top") + ";";
    }

    private String sumText() {
        StringBuilder text = new StringBuilder();
        for (int n = upTo(random.nextInt(3) == 0 ? 4 : 1); n >= 0; n--) {
            text.append(random.nextInt(3) == 0 ? "" + upTo(random.nextBoolean() ? 20 : 999)
                : pick("purls", "holes", "slips", "runs", "most", "least", "lost", "free"));
            text.append(n == 0 ? "" : pick(" plus ", " minus ", " times ", " times "));
        }
        return text.toString();
    }

    private String watcherText() {
        StringBuilder text = new StringBuilder();
        for (int n = upTo(random.nextInt(9) == 0 ? 11 : 2); n > 0 && text.length() < 400; n--) {
            text.append("stop if ");
            if (random.nextInt(3) > 0) {
                text.append(pick("purls", "holes", "slips", "runs", "most", "least", "lost"));
                text.append(pick(" more ", " less ", " same ")).append(upTo(random.nextBoolean() ? 8 : 40));
            } else {
                text.append(sumText()).append(pick(" more ", " less ", " same ")).append(sumText());
            }
            if (random.nextInt(3) == 0) {
                text.append(" and ").append(sumText()).append(pick(" more ", " less ", " same ")).append(sumText());
            }
            text.append(";\n");
        }
        return text.toString();
    }

    private String lossesText() {
        StringBuilder text = new StringBuilder();
        for (int n = upTo(random.nextInt(9) == 0 ? 12 : 2); n > 0; n--) {
            int first = upTo(15);
            int second = first + upTo(Math.min(2, 15 - first));
            text.append(pick("lose rows " + first + " to " + second, "lose columns " + first + " to " + second,
                "moth " + (1 + upTo(98)) + " from " + upTo(255), "moth " + (1 + upTo(20)) + " from " + upTo(9), "wash"));
            text.append(";");
        }
        return text.toString();
    }

    private String wordsText() {
        return word(pick("abcdefghijklmnopqrstuvwxyz ", "az ", "a"), pick("a", "b").equals("a") ? 3 : 20);
    }

    /** Now and then something in a text is wrong. */
    private String spoilt(String text) {
        StringBuilder spoilt = new StringBuilder(text);
        if (random.nextInt(6) == 0) {
            int at = upTo(text.length());
            String odd = pick(";", "0", "9", " ", "\n", "x", "f", "A", "\0", "row ", " stop ", "wash;", "-", "" + (char) 200, "99");
            if (random.nextBoolean() && at < text.length()) {
                spoilt.deleteCharAt(at);
            } else {
                spoilt.insert(at, odd);
            }
        } else if (random.nextInt(12) == 0) {
            for (int n = random.nextInt(16); n > 0; n--) {
                spoilt.append(text.substring(text.lastIndexOf(';', Math.max(0, text.length() - 2)) + 1));
            }
        }
        return spoilt.length() > 600 ? spoilt.substring(0, 600) : spoilt.toString();
    }

    private void feed(String text) {
        due("end 0", x.end(0), m.end(0));
        int[] n = new int[5];
        for (int i = 0; i < text.length(); i += 20) {
            for (int j = 0; j < 20; j++) {
                n[j / 4] = n[j / 4] << 8 | (i + j < text.length() ? text.charAt(i + j) & 255 : 33);
            }
            due("feed", x.feed(n[0], n[1], n[2], n[3], n[4]), m.feed(n[0], n[1], n[2], n[3], n[4]));
        }
        due("end of '" + text + "'", x.end(text.length()), m.end(text.length()));
    }

    private void faults() {
        due("fault 0", x.fault(0), m.fault(0));
        due("fault 1", x.fault(1), m.fault(1));
    }

    private void start() {
        feed(patternText());
        due("pattern", x.pattern(), m.pattern());
        feed(handText());
        due("hand", x.hand(), m.hand());
        for (int k = 0; k < 3; k++) {
            feed(wayText());
            due("way", x.way(k), m.way(k));
        }
        knitSome();
        for (int slot = 0; slot < 3; slot++) {
            int n = upTo(60);
            due("row " + slot + " 1 " + n, x.row(slot, 1, n), m.row(slot, 1, n));
        }
    }

    private void knitSome() {
        for (int c = 0; c < 4; c++) {
            if (random.nextInt(4) > 0) {
                int seed = upTo(2_000_000_000 - 1);
                due("knit " + c + " " + seed, x.knit(c, seed), m.knit(c, seed));
            }
        }
    }

    /** Words are put, some places get lost, and what is left is read and weighed. */
    private void scene() {
        int c = upTo(3);
        int k = upTo(2);
        int seed = upTo(999);
        due("knit " + c + " " + seed, x.knit(c, seed), m.knit(c, seed));
        feed(word("abcxyz ", 4));
        due("put " + c + " " + k, x.put(c, k), m.put(c, k));
        if (random.nextBoolean()) {
            feed(random.nextBoolean() ? "moth " + (20 + upTo(79)) + " from " + upTo(20) + ";" : lossesText());
            due("losses", x.losses(), m.losses());
            due("lose " + c, x.lose(c), m.lose(c));
        }
        due("read " + c + " " + k, x.read(c, k), m.read(c, k));
        for (int i = 0; i <= m.count(8); i++) {
            due("letter " + i, x.letter(i), m.letter(i));
        }
        due("dim " + c + " " + k, x.dim(c, k), m.dim(c, k));
        due("says " + c, x.says(c), m.says(c));
        int d = upTo(3);
        if (random.nextBoolean()) {
            due("rewind " + c + " " + d, x.rewind(c, d), m.rewind(c, d));
        }
        int i = upTo(15);
        due("ball " + d + " " + i, x.ball(d, i), m.ball(d, i));
        due("alike " + c + " " + d, x.alike(c, d), m.alike(c, d));
        due("same " + c + " " + d + " " + k, x.same(c, d, k), m.same(c, d, k));
        due("best " + d, x.best(d), m.best(d));
    }

    /** A WATCHER whose bounds lie close to what is counted in a CLOTH, so that a few turns decide. */
    private void closeCall() {
        int c = upTo(3);
        if (m.count(2) > 60 && random.nextInt(10) > 0) {
            return;
        }
        String[] names = {"purls", "holes", "slips", "runs", "most", "least", "lost", "free"};
        StringBuilder text = new StringBuilder();
        for (int n = upTo(2); n >= 0; n--) {
            int what = random.nextInt(7);
            int value = m.counts(c, what);
            text.append("stop if ").append(names[what]).append(pick(" more ", " less "));
            text.append(Math.max(0, value - 2 + upTo(4))).append(";");
        }
        feed(text.toString());
        due("watcher", x.watcher(), m.watcher());
        due("stops " + c, x.stops(c), m.stops(c));
        due("mend " + c, x.mend(c), m.mend(c));
        int k = upTo(2);
        due("carries " + k, x.carries(k, 5, 4), m.carries(k, 5, 4));
        due("odds", x.odds(5, 4), m.odds(5, 4));
        due("best " + c, x.best(c), m.best(c));
    }

    // ---- calls of chance

    private int odd() {
        return random.nextInt(4) == 0 ? pick("a", "b").equals("a") ? Integer.MIN_VALUE : Integer.MAX_VALUE : random.nextInt();
    }

    /** A number of 0 .. most, now and then one beside it. */
    private int number(int most) {
        int n = random.nextInt(60);
        return n == 0 ? most + 1 : n == 1 ? -1 : n == 2 ? odd() : upTo(most);
    }

    private void step() {
        int kind = random.nextInt(100);
        if (kind < 12) {
            text(random.nextInt(7));
        } else if (kind < 45) {
            words();
        } else if (kind < 65) {
            watch();
        } else if (kind < 70) {
            scene();
        } else if (kind < 75) {
            closeCall();
        } else {
            others();
        }
    }

    private void text(int kind) {
        int k = number(5);
        switch (kind) {
            case 0:
                if (random.nextInt(3) == 0) {
                    feed(spoilt(patternText()));
                    due("pattern", x.pattern(), m.pattern());
                    faults();
                    knitSome();
                }
                break;
            case 1:
                feed(spoilt(handText()));
                due("hand", x.hand(), m.hand());
                break;
            case 2:
            case 3:
                feed(spoilt(wayText()));
                due("way " + k, x.way(k), m.way(k));
                break;
            case 4:
            case 5:
                feed(spoilt(watcherText()));
                due("watcher", x.watcher(), m.watcher());
                break;
            default:
                feed(spoilt(lossesText()));
                due("losses", x.losses(), m.losses());
                break;
        }
        faults();
    }

    private void words() {
        int c = number(3);
        int k = random.nextInt(3) > 0 ? upTo(2) : number(5);
        int i = number(60);
        switch (random.nextInt(10)) {
            case 0:
                int seed = number(2_000_000_000);
                due("knit " + c + " " + seed, x.knit(c, seed), m.knit(c, seed));
                break;
            case 1:
            case 2:
                feed(spoilt(wordsText()));
                due("put " + c + " " + k, x.put(c, k), m.put(c, k));
                faults();
                break;
            case 3:
            case 4:
                due("read " + c + " " + k, x.read(c, k), m.read(c, k));
                int n = number(20);
                due("letter " + n, x.letter(n), m.letter(n));
                break;
            case 5:
                due("bit " + c + " " + k + " " + i, x.bit(c, k, i), m.bit(c, k, i));
                break;
            case 6:
                due("dim " + c + " " + k, x.dim(c, k), m.dim(c, k));
                break;
            case 7:
                due("says " + c, x.says(c), m.says(c));
                break;
            case 8:
                due("place " + k + " " + i, x.place(k, i), m.place(k, i));
                break;
            default:
                due("room " + k, x.room(k), m.room(k));
                due("most " + k, x.most(k), m.most(k));
                break;
        }
    }

    private void watch() {
        int c = number(3);
        int k = number(5);
        int seed = number(2_000_000_000);
        int n = 1 + number(random.nextInt(4) == 0 ? 49 : 5);
        switch (random.nextInt(9)) {
            case 0:
            case 1:
                int what = number(7);
                due("counts " + c + " " + what, x.counts(c, what), m.counts(c, what));
                break;
            case 2:
                due("stops " + c, x.stops(c), m.stops(c));
                break;
            case 3:
                due("odds " + seed + " " + n, x.odds(seed, n), m.odds(seed, n));
                break;
            case 4:
                due("carries " + k + " " + seed + " " + n, x.carries(k, seed, n), m.carries(k, seed, n));
                break;
            case 5:
            case 6:
                due("best " + c, x.best(c), m.best(c));
                break;
            case 7:
                // The Model tries all pairs in its plain way.
                if (m.count(2) < 50 || random.nextInt(20) == 0) {
                    due("mend " + c, x.mend(c), m.mend(c));
                }
                break;
            default:
                if (random.nextInt(3) == 0) {
                    due("lose " + c, x.lose(c), m.lose(c));
                }
                break;
        }
    }

    private void others() {
        int c = number(3);
        int d = number(3);
        int row = number(random.nextInt(3) == 0 ? 15 : m.count(0));
        int column = number(random.nextInt(3) == 0 ? 15 : m.count(1));
        switch (random.nextInt(14)) {
            case 0:
                due("alike " + c + " " + d, x.alike(c, d), m.alike(c, d));
                break;
            case 1:
                int k = number(5);
                due("same " + c + " " + d + " " + k, x.same(c, d, k), m.same(c, d, k));
                break;
            case 2:
                int i = number(250);
                due("ball " + c + " " + i, x.ball(c, i), m.ball(c, i));
                break;
            case 3:
                if (random.nextInt(3) == 0) {
                    due("rewind " + c + " " + d, x.rewind(c, d), m.rewind(c, d));
                }
                break;
            case 4:
                due("copy " + c + " " + d, x.copy(c, d), m.copy(c, d));
                break;
            case 5:
                due("turn " + c + " " + row + " " + column, x.turn(c, row, column), m.turn(c, row, column));
                break;
            case 6:
                due("at " + c + " " + row + " " + column, x.at(c, row, column), m.at(c, row, column));
                break;
            case 7:
                due("sort " + row + " " + column, x.sort(row, column), m.sort(row, column));
                break;
            case 8:
                int what = number(9);
                due("count " + what, x.count(what), m.count(what));
                break;
            case 9:
                int image = number(2);
                if (random.nextBoolean()) {
                    due("keep " + image, x.keep(image), m.keep(image));
                } else {
                    due("back " + image, x.back(image), m.back(image));
                }
                break;
            default:
                slots();
                break;
        }
    }

    private void slots() {
        int slot = number(3);
        int to = number(3);
        int i = number(random.nextBoolean() ? 10 : 59);
        int k = number(10);
        int n = number(random.nextBoolean() ? 10 : 60);
        switch (random.nextInt(5)) {
            case 0:
                int width = random.nextBoolean() ? 1 : number(3);
                due("row " + slot + " " + width + " " + n, x.row(slot, width, n), m.row(slot, width, n));
                break;
            case 1:
            case 2:
                long v = random.nextBoolean() ? upTo(1) : 1L << random.nextInt(64);
                due("write " + slot + " " + i + " " + v, x.write(slot, i, v), m.write(slot, i, v));
                break;
            case 3:
                due("paste " + slot + " " + i + " " + to + " " + k + " " + n,
                    x.paste(slot, i, to, k, n), m.paste(slot, i, to, k, n));
                break;
            default:
                int c = number(3);
                due("lay " + slot + " " + c, x.lay(slot, c), m.lay(slot, c));
                break;
        }
    }
}
