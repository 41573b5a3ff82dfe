import java.math.BigDecimal;
import java.util.ArrayList;
import java.util.Arrays;
import java.util.List;
import java.util.Random;
import java.util.regex.Matcher;
import java.util.regex.Pattern;

/** Holds the class against a second, slow writing of the document, over many runs of calls that are always the same. */
public final class ModelTest {
    private static final int RUNS = 300;
    private static final int CALLS = 200;
    private static final String[] ALPHABETS = {
        "ab\n", "aAbB \t\n", "0123.- \n", "a:b :\n\t", "-0.9 \n5\n", "aZ~\u007f\u001f\u00e9\u0000 \n", "\n\n\na", "xyz ,1-2.\n",
        "ab  \t \tcd\n", "\u0080\u00ff\n", "0\n1\n.\n-\n",
    };

    private static int wrong = 0;

    public static void main(String[] args) {
        for (int run = 0; run < RUNS && wrong < 20; run++) {
            compareRun(run);
        }
        System.out.println(wrong == 0 ? "class and model answer the same" : wrong + " answers differ");
        if (wrong != 0) {
            System.exit(1);
        }
    }

    private static void compareRun(int run) {
        Random random = new Random(run);
        LineSorter sorter = new LineSorter();
        Model model = new Model();
        String alphabet = ALPHABETS[random.nextInt(ALPHABETS.length)];
        int longText = run % 50 == 0 ? 70 : random.nextInt(4) == 0 ? 15 : 0;
        for (int call = 0; call < CALLS; call++) {
            int kind = call < longText ? 0 : random.nextInt(40);
            int[] numbers = numbersFor(kind, random, alphabet, model);
            long got = answer(sorter, null, kind, numbers);
            long due = answer(null, model, kind, numbers);
            if (got != due) {
                wrong++;
                System.out.println("run " + run + ", call " + call + ", kind and numbers " + kind
                        + Arrays.toString(numbers) + ": answered " + got + ", due is " + due);
                return;
            }
            if ((kind == 12 || kind == 14) && !sameResults(sorter, model)) {
                wrong++;
                System.out.println("run " + run + ", call " + call + ": another result behind kind " + kind);
                return;
            }
        }
    }

    private static boolean sameResults(LineSorter sorter, Model model) {
        for (int i = -1; i <= model.result.size(); i++) {
            if (sorter.result(i) != model.result(i) || sorter.run(i) != model.run(i)
                    || sorter.byteAt(i, 0) != model.byteAt(i, 0)) {
                return false;
            }
        }
        for (int what = 0; what < 7; what++) {
            if (sorter.about(what) != model.about(what)) {
                return false;
            }
        }
        return true;
    }

    private static int[] numbersFor(int kind, Random random, String alphabet, Model model) {
        int line = random.nextInt(model.lines() + 1) - (random.nextInt(20) == 0 ? 1 : 0);
        switch (kind) {
            case 2:
                return new int[] {random.nextInt(10) == 0 ? -1 : random.nextInt(model.text.length() + 2)};
            case 3:
                return new int[] {model.text.length() - random.nextInt(12)};
            case 4:
                return new int[] {flags(random), random.nextInt(2), random.nextInt(2)};
            case 5:
                return new int[] {new int[] {-1, -1, ' ', '\t', ':', 'a', 10, 256, -2, 0, 255, '1'}[random.nextInt(12)]};
            case 6: case 26: case 27:
                return new int[] {small(random, 1), small(random, 1), small(random, 0), small(random, 0), flags(random)};
            case 8:
                return new int[] {random.nextInt(8) == 0 ? random.nextInt(505) : 1 + random.nextInt(9), 1 + random.nextInt(17)};
            case 10: case 28: case 29: case 30: case 31:
                return new int[] {line, random.nextInt(20) == 0 ? -1 : random.nextInt(model.keys.size() + 1), random.nextInt(2)};
            case 11: case 32: case 33: case 34:
                return new int[] {line, random.nextInt(model.lines() + 1)};
            case 14:
                return new int[] {random.nextInt(8) == 0 ? Integer.MAX_VALUE : random.nextInt(30)};
            case 15: case 17:
                return new int[] {random.nextInt(12) - 1};
            case 16: case 35: case 36:
                return new int[] {random.nextInt(12) - 1, random.nextInt(8) - 1};
            case 18: case 37: case 38:
                return new int[] {random.nextInt(9) - 1};
            default:
                return fed(random, alphabet);
        }
    }

    private static int[] fed(Random random, String alphabet) {
        int[] numbers = new int[5];
        for (int i = 0; i < 20; i++) {
            numbers[i / 4] = numbers[i / 4] << 8 | alphabet.charAt(random.nextInt(alphabet.length()));
        }
        return numbers;
    }

    private static int flags(Random random) {
        int kind = random.nextInt(20);
        return kind == 0 ? 128 : kind == 1 ? -1 : kind < 6 ? 0 : kind < 12 ? 1 << random.nextInt(7) : random.nextInt(128);
    }

    private static int small(Random random, int least) {
        int kind = random.nextInt(60);
        return kind == 0 ? 1001 : kind == 1 ? least - 1 : kind == 2 ? 1000 : least + random.nextInt(4);
    }

    /** An answer as one number; exceptions are far below every answer. */
    private static long answer(LineSorter x, Model m, int kind, int[] n) {
        try {
            switch (kind) {
                case 2: case 3:
                    if (x != null) { x.end(n[0]); } else { m.end(n[0]); }
                    return 0;
                case 4:
                    if (x != null) { x.ways(n[0], n[1] == 1, n[2] == 1); } else { m.ways(n[0], n[1] == 1, n[2] == 1); }
                    return 0;
                case 5:
                    if (x != null) { x.separator(n[0]); } else { m.separator(n[0]); }
                    return 0;
                case 6: case 26: case 27:
                    return x != null ? x.key(n[0], n[1], n[2], n[3], n[4]) : m.key(n[0], n[1], n[2], n[3], n[4]);
                case 7:
                    return x != null ? x.keyless() : m.keyless();
                case 8:
                    if (x != null) { x.memory(n[0], n[1]); } else { m.memory(n[0], n[1]); }
                    return 0;
                case 9:
                    return x != null ? x.lines() : m.lines();
                case 10: case 28: case 29: case 30: case 31:
                    return x != null ? x.place(n[0], n[1], n[2] == 1) : m.place(n[0], n[1], n[2] == 1);
                case 11: case 32: case 33: case 34:
                    return x != null ? x.compare(n[0], n[1]) : m.compare(n[0], n[1]);
                case 12:
                    return x != null ? x.sort() : m.sort();
                case 13:
                    return x != null ? x.check() : m.check();
                case 14:
                    return x != null ? x.merge(n[0]) : m.merge(n[0]);
                case 15:
                    return x != null ? x.result(n[0]) : m.result(n[0]);
                case 16: case 35: case 36:
                    return x != null ? x.byteAt(n[0], n[1]) : m.byteAt(n[0], n[1]);
                case 17:
                    return x != null ? x.run(n[0]) : m.run(n[0]);
                case 18: case 37: case 38:
                    return x != null ? x.about(n[0]) : m.about(n[0]);
                default:
                    return x != null ? x.feed(n[0], n[1], n[2], n[3], n[4]) : m.feed(n);
            }
        } catch (IllegalStateException e) {
            return -1001;
        } catch (IllegalArgumentException e) {
            return -1002;
        } catch (IndexOutOfBoundsException e) {
            return -1003;
        } catch (UnsupportedOperationException e) {
            return -1004;
        }
    }

    /** The document once more, in lists, strings and decimals, each rule as it is told. */
    private static final class Model {
        private static final String WORDS =
                " \t0123456789abcdefghijklmnopqrstuvwxyzABCDEFGHIJKLMNOPQRSTUVWXYZ";
        private static final Pattern FIELD = Pattern.compile("[ \t]*[^ \t]+|[ \t]+\\z");
        private static final Pattern NUMBER = Pattern.compile("^[ \t]*(-?)([0-9]*)(\\.([0-9]*))?");

        private String text = "";
        private final List<int[]> keys = new ArrayList<>();
        private int all = 0;
        private boolean stable = false;
        private boolean once = false;
        private int sep = -1;
        private int m = 100;
        private int w = 4;
        private List<Integer> result = new ArrayList<>();
        private final List<Integer> runLengths = new ArrayList<>();
        private int merges = 0;
        private int moved = 0;
        private int gone = 0;

        private static void need(boolean holds) {
            if (!holds) {
                throw new IllegalArgumentException();
            }
        }

        int feed(int[] n) {
            if (text.length() + 20 > 20000) {
                throw new IllegalStateException();
            }
            StringBuilder more = new StringBuilder(text);
            for (int number : n) {
                for (int shift = 24; shift >= 0; shift -= 8) {
                    more.append((char) (number >>> shift & 255));
                }
            }
            text = more.toString();
            result = new ArrayList<>();
            return text.length();
        }

        void end(int n) {
            need(n >= 0 && n <= text.length());
            text = text.substring(0, n);
            result = new ArrayList<>();
        }

        void ways(int flags, boolean isStable, boolean isOnce) {
            need(flags >= 0 && flags <= 127);
            all = flags;
            stable = isStable;
            once = isOnce;
        }

        void separator(int c) {
            need(c >= -1 && c <= 255 && c != 10);
            sep = c;
        }

        int key(int f, int c, int e, int d, int flags) {
            need(f >= 1 && f <= 1000 && c >= 1 && c <= 1000);
            need(e >= 0 && e <= 1000 && d >= 0 && d <= 1000 && flags >= 0 && flags <= 127);
            if (keys.size() == 6) {
                throw new UnsupportedOperationException();
            }
            keys.add(new int[] {f, c, e, d, flags});
            return keys.size();
        }

        int keyless() {
            int were = keys.size();
            keys.clear();
            return were;
        }

        void memory(int lines, int runs) {
            need(lines >= 2 && lines <= 500 && runs >= 2 && runs <= 16);
            m = lines;
            w = runs;
        }

        List<String> all() {
            List<String> lines = new ArrayList<>(Arrays.asList(text.split("\n", -1)));
            if (lines.get(lines.size() - 1).isEmpty()) {
                lines.remove(lines.size() - 1);
            }
            return lines;
        }

        int lines() {
            return all().size();
        }

        List<int[]> fields(String line) {
            List<int[]> fields = new ArrayList<>();
            if (sep >= 0) {
                int from = 0;
                for (int at = 0; at <= line.length(); at++) {
                    if (at == line.length() || line.charAt(at) == sep) {
                        fields.add(new int[] {from, at});
                        from = at + 1;
                    }
                }
                return fields;
            }
            Matcher parts = FIELD.matcher(line);
            while (parts.find()) {
                fields.add(new int[] {parts.start(), parts.end()});
            }
            return fields;
        }

        private static int blanks(String line, int[] field) {
            int at = field[0];
            while (at < field[1] && " \t".indexOf(line.charAt(at)) >= 0) {
                at++;
            }
            return at;
        }

        int[] keyAt(int k) {
            int[] key = keys.isEmpty() ? new int[] {1, 1, 0, 0, 0} : keys.get(k).clone();
            key[4] = key[4] == 0 ? all : key[4];
            return key;
        }

        int begin(String line, int[] key) {
            List<int[]> fields = fields(line);
            if (fields.size() < key[0]) {
                return line.length();
            }
            int[] field = fields.get(key[0] - 1);
            int at = ((key[4] & 1) != 0 ? blanks(line, field) : field[0]) + key[1] - 1;
            return Math.min(at, line.length());
        }

        int stop(String line, int[] key) {
            List<int[]> fields = fields(line);
            if (key[2] == 0 || fields.size() < key[2]) {
                return line.length();
            }
            int[] field = fields.get(key[2] - 1);
            if (key[3] == 0) {
                return field[1];
            }
            return Math.min(((key[4] & 64) != 0 ? blanks(line, field) : field[0]) + key[3], line.length());
        }

        int place(int line, int k, boolean end) {
            int count = keys.isEmpty() ? 1 : keys.size();
            if (line < 0 || line >= lines() || k < 0 || k >= count) {
                throw new IndexOutOfBoundsException();
            }
            return end ? stop(all().get(line), keyAt(k)) : begin(all().get(line), keyAt(k));
        }

        private static BigDecimal number(String s) {
            Matcher parts = NUMBER.matcher(s);
            if (!parts.find()) {
                throw new RuntimeException("every text begins with a number or none");
            }
            String fraction = parts.group(4) == null ? "" : parts.group(4);
            return new BigDecimal(parts.group(1) + "0" + parts.group(2) + "." + fraction + "0");
        }

        private static String counted(String s, int flags) {
            StringBuilder left = new StringBuilder();
            for (char c : s.toCharArray()) {
                boolean isWord = WORDS.indexOf(c) >= 0;
                boolean isPrinted = c >= 32 && c <= 126;
                if (((flags & 2) == 0 || isWord) && ((flags & 8) == 0 || isPrinted)) {
                    left.append((flags & 4) != 0 && c >= 'a' && c <= 'z' ? Character.toUpperCase(c) : c);
                }
            }
            return left.toString();
        }

        int byKeys(String a, String b) {
            for (int k = 0; k < Math.max(1, keys.size()); k++) {
                int[] key = keyAt(k);
                String x = between(a, key);
                String y = between(b, key);
                int c = (key[4] & 16) != 0 ? number(x).compareTo(number(y))
                        : Integer.signum(counted(x, key[4]).compareTo(counted(y, key[4])));
                if (c != 0) {
                    return (key[4] & 32) != 0 ? -c : c;
                }
            }
            return 0;
        }

        private String between(String line, int[] key) {
            int from = begin(line, key);
            int to = stop(line, key);
            return from < to ? line.substring(from, to) : "";
        }

        int compare(int a, int b) {
            int count = lines();
            if (a < 0 || b < 0 || a >= count || b >= count) {
                throw new IndexOutOfBoundsException();
            }
            return byKeys(all().get(a), all().get(b));
        }

        int numbersAside(String a, String b) {
            int c = byKeys(a, b);
            if (c == 0 && !stable && !once) {
                c = Integer.signum(a.compareTo(b)) * ((all & 32) != 0 ? -1 : 1);
            }
            return c;
        }

        private int[][] table(List<String> lines) {
            int[][] table = new int[lines.size()][lines.size()];
            for (int a = 0; a < lines.size(); a++) {
                for (int b = a + 1; b < lines.size(); b++) {
                    int c = numbersAside(lines.get(a), lines.get(b));
                    table[a][b] = c == 0 ? -1 : c;
                    table[b][a] = -table[a][b];
                }
            }
            return table;
        }

        private static int first(List<Integer> some, int[][] table) {
            int best = -1;
            for (int line : some) {
                if (best < 0 || table[line][best] < 0) {
                    best = line;
                }
            }
            return best;
        }

        int sort() {
            List<String> lines = all();
            if (lines.size() > 1000) {
                throw new UnsupportedOperationException();
            }
            int[][] table = table(lines);
            List<List<Integer>> runs = runs(lines.size(), table);
            runLengths.clear();
            for (List<Integer> run : runs) {
                runLengths.add(run.size());
            }
            merges = 0;
            moved = 0;
            while (runs.size() > 1) {
                List<List<Integer>> some = new ArrayList<>();
                for (int i = 0; i < w && !runs.isEmpty(); i++) {
                    some.add(runs.remove(0));
                }
                List<Integer> merged = merged(some, table);
                merges++;
                moved += merged.size();
                runs.add(merged);
            }
            result = new ArrayList<>();
            for (int line : runs.isEmpty() ? new ArrayList<Integer>() : runs.get(0)) {
                addOnce(lines, line);
            }
            gone = lines.size() - result.size();
            return result.size();
        }

        private void addOnce(List<String> lines, int line) {
            int last = result.size() - 1;
            if (!once || last < 0 || byKeys(lines.get(result.get(last)), lines.get(line)) != 0) {
                result.add(line);
            }
        }

        private List<List<Integer>> runs(int count, int[][] table) {
            List<List<Integer>> runs = new ArrayList<>();
            List<Integer> inMemory = new ArrayList<>();
            int next = 0;
            while (next < count && next < m) {
                inMemory.add(next++);
            }
            while (!inMemory.isEmpty()) {
                List<Integer> run = new ArrayList<>();
                while (true) {
                    List<Integer> fit = new ArrayList<>();
                    for (int line : inMemory) {
                        if (run.isEmpty() || table[line][run.get(run.size() - 1)] > 0) {
                            fit.add(line);
                        }
                    }
                    if (fit.isEmpty()) {
                        break;
                    }
                    Integer out = first(fit, table);
                    inMemory.remove(out);
                    run.add(out);
                    if (next < count) {
                        inMemory.add(next++);
                    }
                }
                runs.add(run);
            }
            return runs;
        }

        private static List<Integer> merged(List<List<Integer>> pieces, int[][] table) {
            List<Integer> merged = new ArrayList<>();
            while (true) {
                List<Integer> fronts = new ArrayList<>();
                for (List<Integer> piece : pieces) {
                    if (!piece.isEmpty()) {
                        fronts.add(piece.get(0));
                    }
                }
                if (fronts.isEmpty()) {
                    return merged;
                }
                int out = first(fronts, table);
                for (List<Integer> piece : pieces) {
                    if (!piece.isEmpty() && piece.get(0) == out) {
                        piece.remove(0);
                    }
                }
                merged.add(out);
            }
        }

        int check() {
            List<String> lines = all();
            for (int i = 1; i < lines.size(); i++) {
                boolean isBefore = numbersAside(lines.get(i), lines.get(i - 1)) < 0;
                if (isBefore || once && byKeys(lines.get(i), lines.get(i - 1)) == 0) {
                    return i;
                }
            }
            return -1;
        }

        int merge(int n) {
            need(n >= 1);
            List<String> lines = all();
            if (lines.size() > 1000) {
                throw new UnsupportedOperationException();
            }
            List<List<Integer>> pieces = new ArrayList<>();
            for (int line = 0; line < lines.size(); line++) {
                if (line % n == 0) {
                    pieces.add(new ArrayList<>());
                }
                pieces.get(pieces.size() - 1).add(line);
            }
            result = new ArrayList<>();
            for (int line : merged(pieces, table(lines))) {
                addOnce(lines, line);
            }
            return result.size();
        }

        int result(int i) {
            return i >= 0 && i < result.size() ? result.get(i) : -1;
        }

        int byteAt(int i, int k) {
            if (result(i) < 0) {
                return -1;
            }
            String line = all().get(result(i));
            return k >= 0 && k < line.length() ? line.charAt(k) : -1;
        }

        int run(int i) {
            return i >= 0 && i < runLengths.size() ? runLengths.get(i) : -1;
        }

        int about(int what) {
            need(what >= 0 && what <= 6);
            return new int[] {
                runLengths.size(), merges, moved, gone, text.length(), keys.size(), result.size(),
            }[what];
        }
    }
}
