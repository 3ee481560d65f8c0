import java.util.ArrayList;
import java.util.List;

/**
 * The document once more, in the plainest form and without any thought of cost: what the class is held
 * against in long runs of chance. It shares no code with the class.
 */
final class Model {
    /** Where and how a text is faulty. */
    private static final class Fault extends Exception {
        private static final long serialVersionUID = 1L;
        final int what;
        final int place;

        Fault(int what, int place) {
            super("fault " + what, null, false, false);
            this.what = what;
            this.place = place;
        }
    }

    private record Token(String text, int place) { }

    private record Way(String sorts, int step, int group, int guard, boolean turn, boolean top) { }

    private record Term(boolean minus, List<String> parts) { }

    private record Test(List<Term> left, String sign, List<Term> right) { }

    private record Loss(String kind, int first, int second) { }

    /** All that an IMAGE keeps; only the CLOTHS are ever changed in place. */
    private static final class State {
        String[] grid = new String[0];
        int[] shares = new int[3];
        Way[] ways = new Way[6];
        List<List<Test>> watcher = List.of();
        List<Loss> losses = List.of();
        int[][][] cloths = new int[4][][];

        State twin() {
            State s = new State();
            s.grid = grid;
            s.shares = shares;
            s.ways = ways.clone();
            s.watcher = watcher;
            s.losses = losses;
            for (int c = 0; c < 4; c++) {
                s.cloths[c] = cloths[c] == null ? null : twinOf(cloths[c]);
            }
            return s;
        }
    }

    private static int[][] twinOf(int[][] cloth) {
        int[][] twin = new int[cloth.length][];
        for (int r = 0; r < cloth.length; r++) {
            twin[r] = cloth[r].clone();
        }
        return twin;
    }

    private String tape = "";
    private State s = new State();
    private final State[] images = new State[3];
    private String latest = null;
    private int fault = 0;
    private int faultPlace = -1;
    private final long[][] slots = new long[4][];
    private final int[] widths = new int[4];

    // ---- texts

    private List<Token> tokens;
    private int next;

    private void cut() {
        tokens = new ArrayList<>();
        next = 0;
        int i = 0;
        while (i < tape.length()) {
            String rest = tape.substring(i);
            String found = "";
            for (String kind : new String[] {"^[ \n]+", "^[a-z]+", "^[0-9]+", "^;"}) {
                java.util.regex.Matcher m = java.util.regex.Pattern.compile(kind).matcher(rest);
                if (m.find()) {
                    found = m.group();
                    if (!kind.equals("^[ \n]+")) {
                        tokens.add(new Token(found, i));
                    }
                    break;
                }
            }
            if (found.isEmpty()) {
                tokens.add(new Token("?", i));
                i++;
            }
            i += found.length();
        }
    }

    private boolean atEnd() {
        return next == tokens.size();
    }

    private String look() {
        return atEnd() ? "" : tokens.get(next).text();
    }

    private int here() {
        return atEnd() ? tape.length() : tokens.get(next).place();
    }

    private void want(String text) throws Fault {
        if (!look().equals(text)) {
            throw new Fault(1, here());
        }
        next++;
    }

    private String wantOf(String regex) throws Fault {
        if (!look().matches(regex)) {
            throw new Fault(1, here());
        }
        next++;
        return tokens.get(next - 1).text();
    }

    private int wantNumber(int least, int most) throws Fault {
        int place = here();
        java.math.BigInteger n = new java.math.BigInteger(wantOf("[0-9]+"));
        if (n.bitLength() > 20 || n.intValue() < least || n.intValue() > most) {
            throw new Fault(2, place);
        }
        return n.intValue();
    }

    private void wantEnd() throws Fault {
        if (!atEnd()) {
            throw new Fault(1, here());
        }
    }

    private String[] tellPattern() throws Fault {
        want("wide");
        int wide = wantNumber(1, 16);
        want("rows");
        int rows = wantNumber(1, 16);
        want(";");
        List<String> told = new ArrayList<>();
        do {
            if (told.size() == 8 && look().equals("row")) {
                throw new Fault(3, here());
            }
            want("row");
            told.add(wantOf("[kpfhm]{1,12}"));
            want(";");
        } while (!atEnd());
        String[] grid = new String[rows];
        for (int r = 0; r < rows; r++) {
            grid[r] = told.get(r % told.size()).repeat(16).substring(0, wide);
        }
        return grid;
    }

    private int[] tellHand() throws Fault {
        int[] shares = new int[3];
        want("hand");
        want("f");
        shares[0] = wantNumber(0, 100);
        want("h");
        shares[1] = wantNumber(0, 100);
        want("m");
        shares[2] = wantNumber(0, 100);
        want(";");
        wantEnd();
        return shares;
    }

    private boolean may(String word) {
        if (look().equals(word)) {
            next++;
            return true;
        }
        return false;
    }

    private Way tellWay() throws Fault {
        want("way");
        want("over");
        String sorts = wantOf("[fhm]|fh|fm|hf|hm|mf|mh|fhm|fmh|hfm|hmf|mfh|mhf");
        int step = may("step") ? wantNumber(1, 9) : 1;
        int group = may("group") ? wantNumber(1, 5) : 1;
        int guard = 1;
        if (may("guard")) {
            int place = here();
            guard = wantNumber(1, 5);
            if (guard % 2 == 0) {
                throw new Fault(2, place);
            }
        }
        boolean turn = may("turn");
        boolean top = may("top");
        want(";");
        wantEnd();
        return new Way(sorts, step, group, guard, turn, top);
    }

    private List<Term> tellSum() throws Fault {
        List<Term> sum = new ArrayList<>();
        boolean minus = false;
        while (true) {
            List<String> parts = new ArrayList<>();
            do {
                if (look().matches("[0-9]+")) {
                    parts.add("" + wantNumber(0, 999));
                } else {
                    parts.add(wantOf("purls|holes|slips|runs|most|least|lost|free"));
                }
            } while (may("times"));
            sum.add(new Term(minus, parts));
            if (may("plus")) {
                minus = false;
            } else if (may("minus")) {
                minus = true;
            } else {
                return sum;
            }
        }
    }

    private List<List<Test>> tellWatcher() throws Fault {
        List<List<Test>> lines = new ArrayList<>();
        while (!atEnd()) {
            if (lines.size() == 12 && look().equals("stop")) {
                throw new Fault(3, here());
            }
            want("stop");
            want("if");
            List<Test> line = new ArrayList<>();
            do {
                List<Term> left = tellSum();
                String sign = wantOf("more|less|same");
                line.add(new Test(left, sign, tellSum()));
            } while (may("and"));
            want(";");
            lines.add(line);
        }
        return lines;
    }

    private List<Loss> tellLosses() throws Fault {
        List<Loss> losses = new ArrayList<>();
        while (!atEnd()) {
            if (losses.size() == 12 && look().matches("lose|moth|wash")) {
                throw new Fault(3, here());
            }
            String kind = wantOf("lose|moth|wash");
            int first = 0;
            int second = 0;
            if (kind.equals("lose")) {
                kind = wantOf("rows|columns");
                first = wantNumber(0, 15);
                want("to");
                second = wantNumber(first, 15);
            } else if (kind.equals("moth")) {
                first = wantNumber(1, 99);
                want("from");
                second = wantNumber(0, 255);
            }
            want(";");
            losses.add(new Loss(kind, first, second));
        }
        return losses;
    }

    private int tell(char kind, int k) {
        cut();
        fault = 0;
        faultPlace = -1;
        int answer;
        try {
            answer = tellKind(kind, k);
        } catch (Fault f) {
            fault = f.what;
            faultPlace = f.place;
            answer = -4;
        }
        tape = "";
        return answer;
    }

    private int tellKind(char kind, int k) throws Fault {
        switch (kind) {
            case 'p':
                s.grid = tellPattern();
                s.cloths = new int[4][][];
                return frees().size();
            case 'h':
                s.shares = tellHand();
                return 0;
            case 'w':
                s.ways[k] = tellWay();
                return room(k);
            case 's':
                s.watcher = tellWatcher();
                return s.watcher.size();
            default:
                s.losses = tellLosses();
                return s.losses.size();
        }
    }

    // ---- places

    private int rows() {
        return s.grid.length;
    }

    private int columns() {
        return rows() == 0 ? 0 : s.grid[0].length();
    }

    private char signAt(int r, int c) {
        return s.grid[r].charAt(c);
    }

    /** FREE places in their order, as {row, column}. */
    private List<int[]> frees() {
        List<int[]> frees = new ArrayList<>();
        for (int r = 0; r < rows(); r++) {
            for (int c = 0; c < columns(); c++) {
                if ("fhm".indexOf(signAt(r, c)) >= 0) {
                    frees.add(new int[] {r, c});
                }
            }
        }
        return frees;
    }

    private int notPlain(int[] p) {
        return "fhm".indexOf(signAt(p[0], p[1])) + 1;
    }

    private void turnOver(int[][] cloth, int[] p) {
        cloth[p[0]][p[1]] = cloth[p[0]][p[1]] != 0 ? 0 : notPlain(p);
    }

    private List<int[]> placesOf(Way w) {
        List<int[]> all = new ArrayList<>();
        for (int i = 0; i < rows(); i++) {
            int r = w.top() ? rows() - 1 - i : i;
            List<int[]> row = new ArrayList<>();
            for (int c = 0; c < columns(); c++) {
                if (w.sorts().indexOf(signAt(r, c)) >= 0) {
                    row.add(new int[] {r, c});
                }
            }
            if (w.turn() && r % 2 != 0) {
                java.util.Collections.reverse(row);
            }
            all.addAll(row);
        }
        List<int[]> places = new ArrayList<>();
        for (int i = w.step(); i <= all.size(); i += w.step()) {
            places.add(all.get(i - 1));
        }
        return places;
    }

    private List<List<int[]>> groupsOf(Way w) {
        List<List<int[]>> groups = new ArrayList<>();
        List<int[]> places = placesOf(w);
        for (int i = 0; i + w.group() <= places.size(); i += w.group()) {
            groups.add(places.subList(i, i + w.group()));
        }
        return groups;
    }

    private List<List<List<int[]>>> bitsOf(Way w) {
        List<List<List<int[]>>> bits = new ArrayList<>();
        List<List<int[]>> groups = groupsOf(w);
        for (int i = 0; i + w.guard() <= groups.size(); i += w.guard()) {
            bits.add(groups.subList(i, i + w.guard()));
        }
        return bits;
    }

    private int groupTells(int[][] cloth, List<int[]> group) {
        int n = 0;
        for (int[] p : group) {
            if (cloth[p[0]][p[1]] == 4) {
                return 2;
            }
            n += cloth[p[0]][p[1]] != 0 ? 1 : 0;
        }
        return n % 2;
    }

    private int bitTells(int[][] cloth, List<List<int[]>> bit) {
        int[] told = new int[3];
        for (List<int[]> group : bit) {
            told[groupTells(cloth, group)]++;
        }
        return told[0] == told[1] ? 2 : told[1] > told[0] ? 1 : 0;
    }

    private static String bitString(String words) {
        StringBuilder bits = new StringBuilder();
        for (char ch : words.toCharArray()) {
            String five = Integer.toBinaryString(32 + (ch == ' ' ? 0 : ch - 'a' + 1));
            bits.append(five.substring(1));
        }
        return bits + "11111";
    }

    private int putWords(int[][] cloth, Way w, String words) {
        int changed = 0;
        String string = bitString(words);
        List<List<List<int[]>>> bits = bitsOf(w);
        for (int b = 0; b < string.length(); b++) {
            for (List<int[]> group : bits.get(b)) {
                if (groupTells(cloth, group) == string.charAt(b) - '0') {
                    continue;
                }
                for (int i = group.size() - 1; i >= 0; i--) {
                    int[] p = group.get(i);
                    if (cloth[p[0]][p[1]] != 4) {
                        turnOver(cloth, p);
                        changed++;
                        break;
                    }
                }
            }
        }
        return changed;
    }

    /** What a CLOTH says; null if nothing. */
    private String hear(int[][] cloth, Way w) {
        StringBuilder told = new StringBuilder();
        for (List<List<int[]>> bit : bitsOf(w)) {
            told.append(bitTells(cloth, bit));
        }
        StringBuilder words = new StringBuilder();
        for (int i = 0; i + 5 <= told.length(); i += 5) {
            String five = told.substring(i, i + 5);
            if (five.equals("11111")) {
                return words.length() == 0 || words.indexOf("!") >= 0 ? null : words.toString();
            }
            int n = five.contains("2") ? -1 : Integer.parseInt(five, 2);
            words.append(n == -1 ? '?' : n == 0 ? ' ' : n > 26 ? '!' : (char) ('a' + n - 1));
        }
        return null;
    }

    private int[][] knitted(int seed) {
        int[][] cloth = new int[rows()][columns()];
        java.math.BigInteger x = java.math.BigInteger.valueOf(seed);
        for (int r = 0; r < rows(); r++) {
            for (int c = 0; c < columns(); c++) {
                char sign = signAt(r, c);
                if (sign == 'p') {
                    cloth[r][c] = 1;
                } else if (sign != 'k') {
                    x = x.multiply(java.math.BigInteger.valueOf(1103515245)).add(java.math.BigInteger.valueOf(12345))
                        .mod(java.math.BigInteger.valueOf(2147483648L));
                    int share = s.shares["fhm".indexOf(sign)];
                    cloth[r][c] = x.longValue() / 65536 % 100 < share ? "fhm".indexOf(sign) + 1 : 0;
                }
            }
        }
        return cloth;
    }

    // ---- the WATCHER

    private int[] countsOf(int[][] cloth) {
        int[] n = new int[8];
        int before = -1;
        int[] inRow = new int[Math.max(1, rows())];
        for (int[] p : frees()) {
            int stitch = cloth[p[0]][p[1]];
            if (stitch >= 1 && stitch <= 3) {
                n[stitch - 1]++;
                inRow[p[0]]++;
            }
            if (signAt(p[0], p[1]) == 'f') {
                if (before != -1 && before != 4 && stitch != 4 && stitch != before) {
                    n[3]++;
                }
                before = stitch;
            }
        }
        n[4] = java.util.Arrays.stream(inRow).max().getAsInt();
        n[5] = java.util.Arrays.stream(inRow).min().getAsInt();
        for (int[] row : cloth) {
            for (int stitch : row) {
                n[6] += stitch == 4 ? 1 : 0;
            }
        }
        n[7] = frees().size();
        return n;
    }

    private static final List<String> NAMES =
        List.of("purls", "holes", "slips", "runs", "most", "least", "lost", "free");

    /** null if a number on the way is too far out. */
    private static java.math.BigInteger sumOf(List<Term> sum, int[] counts) {
        java.math.BigInteger far = java.math.BigInteger.valueOf(1_000_000_000);
        java.math.BigInteger all = null;
        for (Term term : sum) {
            java.math.BigInteger product = null;
            for (String part : term.parts()) {
                int name = NAMES.indexOf(part);
                java.math.BigInteger n = java.math.BigInteger.valueOf(name < 0 ? Integer.parseInt(part) : counts[name]);
                product = product == null ? n : product.multiply(n);
                if (product.abs().compareTo(far) > 0) {
                    return null;
                }
            }
            all = all == null ? product : term.minus() ? all.subtract(product) : all.add(product);
            if (all.abs().compareTo(far) > 0) {
                return null;
            }
        }
        return all;
    }

    private int stop(int[][] cloth) {
        int[] counts = countsOf(cloth);
        for (int line = 0; line < s.watcher.size(); line++) {
            boolean all = true;
            for (Test test : s.watcher.get(line)) {
                java.math.BigInteger left = sumOf(test.left(), counts);
                java.math.BigInteger right = sumOf(test.right(), counts);
                int sign = test.sign().equals("more") ? 1 : test.sign().equals("less") ? -1 : 0;
                all &= left != null && right != null && left.compareTo(right) == sign;
            }
            if (all) {
                return line;
            }
        }
        return -1;
    }

    private int wear(int[][] cloth) {
        for (Loss loss : s.losses) {
            for (int p = 0; p < rows() * columns(); p++) {
                int r = p / columns();
                int c = p % columns();
                boolean lost = switch (loss.kind()) {
                    case "rows" -> loss.first() <= r && r <= loss.second();
                    case "columns" -> loss.first() <= c && c <= loss.second();
                    case "moth" -> p >= loss.second() && (p - loss.second()) % loss.first() == 0;
                    default -> false;
                };
                if (lost) {
                    cloth[r][c] = 4;
                } else if (loss.kind().equals("wash") && cloth[r][c] == 2) {
                    cloth[r][c] = 0;
                }
            }
        }
        return countsOf(cloth)[6];
    }

    private List<Integer> ballOf(int[][] cloth) {
        List<Integer> ball = new ArrayList<>();
        for (int r = rows() - 1; r >= 0; r--) {
            for (int i = 0; i < columns(); i++) {
                int stitch = cloth[r][r % 2 == 1 ? i : columns() - 1 - i];
                if (stitch != 4) {
                    ball.add(stitch);
                }
            }
        }
        return ball;
    }

    // ---- the calls

    private static boolean isCloth(int c) {
        return 0 <= c && c <= 3;
    }

    private static boolean isWay(int k) {
        return 0 <= k && k <= 5;
    }

    private int noCloth(int c) {
        return !isCloth(c) ? -2 : s.cloths[c] == null ? -6 : 0;
    }

    private int noWay(int k) {
        return !isWay(k) ? -2 : s.ways[k] == null ? -6 : 0;
    }

    private static int first(int... refusals) {
        int least = 0;
        for (int refusal : refusals) {
            if (refusal == -2) {
                return -2;
            }
            least = Math.min(least, refusal);
        }
        return least;
    }

    int feed(int... numbers) {
        if (tape.length() + 20 > 600) {
            return -1;
        }
        StringBuilder more = new StringBuilder(tape);
        for (int n : numbers) {
            for (byte b : java.nio.ByteBuffer.allocate(4).putInt(n).array()) {
                more.append((char) (b & 255));
            }
        }
        tape = more.toString();
        return tape.length();
    }

    int end(int n) {
        if (n < 0 || n > tape.length()) {
            return -1;
        }
        tape = tape.substring(0, n);
        return n;
    }

    int pattern() {
        return tell('p', 0);
    }

    int hand() {
        return tell('h', 0);
    }

    int way(int k) {
        return isWay(k) ? tell('w', k) : -2;
    }

    int watcher() {
        return tell('s', 0);
    }

    int losses() {
        return tell('l', 0);
    }

    int fault(int what) {
        return what == 0 ? fault : what == 1 ? faultPlace : -1;
    }

    int knit(int c, int seed) {
        if (!isCloth(c) || seed < 0 || seed > 2_000_000_000) {
            return -2;
        }
        if (rows() == 0) {
            return -6;
        }
        s.cloths[c] = knitted(seed);
        int[] n = countsOf(s.cloths[c]);
        return n[0] + n[1] + n[2];
    }

    int put(int c, int k) {
        int no = first(noCloth(c), noWay(k));
        if (no != 0) {
            return no;
        }
        String words = tape;
        tape = "";
        fault = 0;
        faultPlace = -1;
        for (int i = 0; i <= words.length(); i++) {
            boolean wrong = i == words.length() ? i == 0 : !words.substring(i, i + 1).matches("[a-z ]");
            if (wrong) {
                fault = 1;
                faultPlace = i;
                return -4;
            }
        }
        if (bitString(words).length() > bitsOf(s.ways[k]).size()) {
            return -3;
        }
        return putWords(s.cloths[c], s.ways[k], words);
    }

    int read(int c, int k) {
        int no = first(noCloth(c), noWay(k));
        if (no != 0) {
            return no;
        }
        String words = hear(s.cloths[c], s.ways[k]);
        if (words == null) {
            return -1;
        }
        latest = words;
        return words.length();
    }

    int letter(int i) {
        return latest == null || i < 0 || i >= latest.length() ? -1 : latest.charAt(i);
    }

    int bit(int c, int k, int i) {
        int no = first(noCloth(c), noWay(k));
        if (no != 0) {
            return no;
        }
        List<List<List<int[]>>> bits = bitsOf(s.ways[k]);
        return i < 0 || i >= bits.size() ? -1 : bitTells(s.cloths[c], bits.get(i));
    }

    int dim(int c, int k) {
        int no = first(noCloth(c), noWay(k));
        if (no != 0) {
            return no;
        }
        return (int) bitsOf(s.ways[k]).stream().filter(b -> bitTells(s.cloths[c], b) == 2).count();
    }

    int says(int c) {
        int no = noCloth(c);
        if (no != 0) {
            return no;
        }
        int ways = 0;
        for (int k = 0; k < 6; k++) {
            ways += s.ways[k] != null && hear(s.cloths[c], s.ways[k]) != null ? 1 << k : 0;
        }
        return ways;
    }

    private boolean isPlace(int row, int column) {
        return 0 <= row && row < rows() && 0 <= column && column < columns();
    }

    int at(int c, int row, int column) {
        return noCloth(c) != 0 || !isPlace(row, column) ? -1 : s.cloths[c][row][column];
    }

    int sort(int row, int column) {
        return isPlace(row, column) ? "kpfhm".indexOf(signAt(row, column)) : -1;
    }

    int place(int k, int i) {
        int no = noWay(k);
        if (no != 0) {
            return no;
        }
        List<int[]> places = placesOf(s.ways[k]);
        return i < 0 || i >= places.size() ? -1 : 100 * places.get(i)[0] + places.get(i)[1];
    }

    int room(int k) {
        int no = noWay(k);
        return no != 0 ? no : bitsOf(s.ways[k]).size();
    }

    int most(int k) {
        int no = noWay(k);
        if (no != 0) {
            return no;
        }
        int letters = 0;
        while (5 * (letters + 2) <= room(k)) {
            letters++;
        }
        return letters;
    }

    int counts(int c, int what) {
        int no = first(noCloth(c), what < 0 || what > 7 ? -2 : 0);
        return no != 0 ? no : countsOf(s.cloths[c])[what];
    }

    int stops(int c) {
        int no = noCloth(c);
        return no != 0 ? no : stop(s.cloths[c]);
    }

    private static int noOdds(int seed, int n) {
        return seed < 0 || seed > 2_000_000_000 || n < 1 || n > 50 ? -2 : 0;
    }

    int odds(int seed, int n) {
        int no = first(noOdds(seed, n), rows() == 0 ? -6 : 0);
        if (no != 0) {
            return no;
        }
        int stopped = 0;
        for (int i = 0; i < n; i++) {
            stopped += stop(knitted(seed + i)) >= 0 ? 1 : 0;
        }
        return stopped;
    }

    int carries(int k, int seed, int n) {
        int no = first(noOdds(seed, n), noWay(k), rows() == 0 ? -6 : 0);
        if (no != 0) {
            return no;
        }
        if (latest == null || latest.contains("?")) {
            return -5;
        }
        if (bitString(latest).length() > room(k)) {
            return -3;
        }
        int stopped = 0;
        for (int i = 0; i < n; i++) {
            int[][] cloth = knitted(seed + i);
            putWords(cloth, s.ways[k], latest);
            stopped += stop(cloth) >= 0 ? 1 : 0;
        }
        return stopped;
    }

    int best(int c) {
        int no = noCloth(c);
        if (no != 0) {
            return no;
        }
        if (latest == null || latest.contains("?")) {
            return -5;
        }
        int best = -1;
        int fewest = 0;
        for (int k = 0; k < 6; k++) {
            if (s.ways[k] == null || bitString(latest).length() > room(k)) {
                continue;
            }
            int[][] cloth = twinOf(s.cloths[c]);
            int changed = putWords(cloth, s.ways[k], latest);
            boolean stopped = stop(cloth) >= 0;
            wear(cloth);
            if (!stopped && latest.equals(hear(cloth, s.ways[k])) && (best < 0 || changed < fewest)) {
                best = k;
                fewest = changed;
            }
        }
        return best;
    }

    int lose(int c) {
        int no = noCloth(c);
        return no != 0 ? no : wear(s.cloths[c]);
    }

    int alike(int c, int d) {
        int no = first(noCloth(c), noCloth(d));
        if (no != 0) {
            return no;
        }
        int alike = 0;
        for (int[] p : frees()) {
            int one = s.cloths[c][p[0]][p[1]];
            int other = s.cloths[d][p[0]][p[1]];
            alike += one != 4 && other != 4 && one == other ? 1 : 0;
        }
        return alike;
    }

    int same(int c, int d, int k) {
        int no = first(noCloth(c), noCloth(d), noWay(k));
        if (no != 0) {
            return no;
        }
        int same = 0;
        for (List<List<int[]>> b : bitsOf(s.ways[k])) {
            int one = bitTells(s.cloths[c], b);
            int other = bitTells(s.cloths[d], b);
            same += one != 2 && other != 2 && one == other ? 1 : 0;
        }
        return same;
    }

    int ball(int c, int i) {
        int no = noCloth(c);
        if (no != 0) {
            return no;
        }
        List<Integer> ball = ballOf(s.cloths[c]);
        return i < 0 || i >= ball.size() ? -1 : ball.get(i);
    }

    int rewind(int c, int d) {
        int no = first(noCloth(c), noCloth(d));
        if (no != 0) {
            return no;
        }
        int[][] old = s.cloths[c];
        List<Integer> ball = ballOf(old);
        int[][] cloth = new int[rows()][columns()];
        int otherwise = 0;
        for (int r = 0; r < rows(); r++) {
            for (int i = 0; i < columns(); i++) {
                int column = r % 2 == 0 ? i : columns() - 1 - i;
                cloth[r][column] = ball.isEmpty() ? 4 : ball.remove(ball.size() - 1);
                otherwise += cloth[r][column] != old[r][column] ? 1 : 0;
            }
        }
        s.cloths[d] = cloth;
        return otherwise;
    }

    int copy(int c, int d) {
        int no = first(noCloth(c), isCloth(d) ? 0 : -2);
        if (no != 0) {
            return no;
        }
        s.cloths[d] = twinOf(s.cloths[c]);
        return 0;
    }

    int turn(int c, int row, int column) {
        if (!isCloth(c) || sort(row, column) < 2) {
            return -2;
        }
        if (s.cloths[c] == null) {
            return -6;
        }
        if (s.cloths[c][row][column] == 4) {
            return -5;
        }
        turnOver(s.cloths[c], new int[] {row, column});
        return s.cloths[c][row][column];
    }

    int mend(int c) {
        int no = noCloth(c);
        if (no != 0) {
            return no;
        }
        if (stop(s.cloths[c]) < 0) {
            return 0;
        }
        List<int[]> frees = frees();
        frees.removeIf(p -> s.cloths[c][p[0]][p[1]] == 4);
        boolean two = false;
        for (int i = 0; i < frees.size(); i++) {
            int[][] one = twinOf(s.cloths[c]);
            turnOver(one, frees.get(i));
            if (stop(one) < 0) {
                return 1;
            }
            for (int j = 0; j < i && !two; j++) {
                int[][] both = twinOf(one);
                turnOver(both, frees.get(j));
                two = stop(both) < 0;
            }
        }
        return two ? 2 : -1;
    }

    int count(int what) {
        switch (what) {
            case 0:
                return rows();
            case 1:
                return columns();
            case 2:
                return frees().size();
            case 3:
                return (int) java.util.Arrays.stream(s.ways).filter(w -> w != null).count();
            case 4:
                return s.watcher.size();
            case 5:
                return s.losses.size();
            case 6:
                return (int) java.util.Arrays.stream(s.cloths).filter(c -> c != null).count();
            case 7:
                return tape.length();
            case 8:
                return latest == null ? 0 : latest.length();
            case 9:
                return (int) java.util.Arrays.stream(slots).filter(r -> r != null).count();
            default:
                return -1;
        }
    }

    int keep(int k) {
        if (k < 0 || k > 2) {
            return -2;
        }
        images[k] = s.twin();
        return 0;
    }

    int back(int k) {
        if (k < 0 || k > 2) {
            return -2;
        }
        if (images[k] == null) {
            return -6;
        }
        s = images[k].twin();
        return 0;
    }

    int row(int slot, int width, int n) {
        if (slot < 0 || slot > 3 || width < 0 || width > 3 || n > 60) {
            return -2;
        }
        if (n < 0) {
            return -3;
        }
        slots[slot] = new long[n];
        widths[slot] = width;
        return 0;
    }

    int write(int slot, int i, long v) {
        if (slot < 0 || slot > 3) {
            return -2;
        }
        if (slots[slot] == null) {
            return -6;
        }
        if (i < 0 || i >= slots[slot].length) {
            return -7;
        }
        int bits = 8 << widths[slot];
        slots[slot][i] = v << (64 - bits) >> (64 - bits);
        return 0;
    }

    int paste(int slot, int i, int to, int k, int n) {
        if (slot < 0 || slot > 3 || to < 0 || to > 3) {
            return -2;
        }
        if (slots[slot] == null || slots[to] == null) {
            return -6;
        }
        if (widths[slot] != widths[to]) {
            return -8;
        }
        if (i < 0 || k < 0 || n < 0 || (long) i + n > slots[slot].length || (long) k + n > slots[to].length) {
            return -7;
        }
        long[] were = slots[slot].clone();
        for (int j = 0; j < n; j++) {
            slots[to][k + j] = were[i + j];
        }
        return 0;
    }

    int lay(int slot, int c) {
        if (slot < 0 || slot > 3 || !isCloth(c)) {
            return -2;
        }
        if (slots[slot] == null || s.cloths[c] == null) {
            return -6;
        }
        int changed = 0;
        int i = 0;
        for (int[] p : frees()) {
            if (i < slots[slot].length) {
                int stitch = slots[slot][i] == 0 ? 0 : notPlain(p);
                changed += s.cloths[c][p[0]][p[1]] != stitch ? 1 : 0;
                s.cloths[c][p[0]][p[1]] = stitch;
            }
            i++;
        }
        return changed;
    }
}
