import java.nio.charset.StandardCharsets;
import java.util.Collections;

/** What the tests share: answers held against those that are due, and texts fed from strings. */
abstract class Checks {
    static final int NONE = LineSorter.NONE;
    static final int BLANKS_AT_BEGIN = 1;
    static final int WORDS = 2;
    static final int CAPITALS = 4;
    static final int PRINTED = 8;
    static final int NUMBERS = 16;
    static final int REVERSED = 32;
    static final int BLANKS_AT_END = 64;
    static final int[] FAR_OUT = {Integer.MIN_VALUE, Integer.MIN_VALUE + 1, Integer.MAX_VALUE - 1, Integer.MAX_VALUE};

    private static int wrong = 0;
    private static int held = 0;
    private static String under = "";

    interface Call {
        void make();
    }

    /** What the answers that follow are told under. */
    static void under(String heading) {
        under = heading;
    }

    static void finish() {
        System.out.println(wrong == 0 ? held + " answers are as due" : wrong + " answers are not as due");
        if (wrong != 0) {
            System.exit(1);
        }
    }

    static void due(String what, Object got, Object want) {
        held++;
        if (!got.equals(want)) {
            wrong++;
            System.out.println(under + ": " + what + " is " + got + ", due is " + want);
        }
    }

    static void dueThrown(String what, Class<? extends RuntimeException> want, Call call) {
        due(what, thrownBy(call), want.getSimpleName());
    }

    static void dueIllegal(String what, Call call) {
        dueThrown(what, IllegalArgumentException.class, call);
    }

    static void dueOutOfBounds(String what, Call call) {
        dueThrown(what, IndexOutOfBoundsException.class, call);
    }

    static void dueUnsupported(String what, Call call) {
        dueThrown(what, UnsupportedOperationException.class, call);
    }

    static void dueAllowed(String what, Call call) {
        due(what, thrownBy(call), "nothing");
    }

    static String thrownBy(Call call) {
        try {
            call.make();
            return "nothing";
        } catch (RuntimeException e) {
            return e.getClass().getSimpleName();
        }
    }

    static LineSorter withText(String text) {
        LineSorter sorter = new LineSorter();
        append(sorter, text);
        return sorter;
    }

    static void append(LineSorter sorter, String text) {
        byte[] bytes = text.getBytes(StandardCharsets.ISO_8859_1);
        int length = sorter.about(4) + bytes.length;
        int[] words = new int[(bytes.length + 19) / 20 * 5];
        for (int i = 0; i < words.length * 4; i++) {
            words[i / 4] = words[i / 4] << 8 | (i < bytes.length ? bytes[i] & 255 : 0);
        }
        for (int i = 0; i < words.length; i += 5) {
            sorter.feed(words[i], words[i + 1], words[i + 2], words[i + 3], words[i + 4]);
        }
        sorter.end(length);
    }

    static String resultOf(LineSorter sorter) {
        StringBuilder told = new StringBuilder();
        for (int i = 0; i < sorter.about(6); i++) {
            told.append(i == 0 ? "" : " ").append(sorter.result(i));
        }
        return told.toString();
    }

    static String sorted(LineSorter sorter) {
        sorter.sort();
        return resultOf(sorter);
    }

    static String merged(LineSorter sorter, int n) {
        sorter.merge(n);
        return resultOf(sorter);
    }

    static String runsOf(LineSorter sorter) {
        StringBuilder told = new StringBuilder();
        for (int i = 0; i < sorter.about(0); i++) {
            told.append(i == 0 ? "" : " ").append(sorter.run(i));
        }
        return told.toString();
    }

    /** Of the latest sort: runs, merges, lines moved, lines gone. */
    static String sortOf(LineSorter sorter) {
        return sorter.about(0) + " " + sorter.about(1) + " " + sorter.about(2) + " " + sorter.about(3);
    }

    static String span(LineSorter sorter, int line, int k) {
        return sorter.place(line, k, false) + ".." + sorter.place(line, k, true);
    }

    /** Where a key of its own stands in the one line of a text. */
    static String spanIn(String line, int separator, int f, int c, int e, int d, int flags) {
        LineSorter sorter = withText(line + "\n");
        sorter.separator(separator);
        sorter.key(f, c, e, d, flags);
        return span(sorter, 0, 0);
    }

    static int compared(String a, String b, int flags) {
        LineSorter sorter = withText(a + "\n" + b + "\n");
        sorter.ways(flags, false, false);
        due("turned round, " + a + " and " + b, sorter.compare(1, 0), -sorter.compare(0, 1));
        return sorter.compare(0, 1);
    }

    static String times(int count, String part) {
        return String.join("", Collections.nCopies(count, part));
    }

    /** Lines of three digits from 999 down, at most 1000 of them. */
    static String descending(int count) {
        StringBuilder text = new StringBuilder();
        for (int i = 0; i < count; i++) {
            text.append(String.format("%03d", 999 - i)).append('\n');
        }
        return text.toString();
    }

    /** The numbers from one to another, upwards or downwards, as results are told. */
    static String numbers(int from, int to) {
        StringBuilder told = new StringBuilder().append(from);
        for (int at = from; at != to;) {
            at += from < to ? 1 : -1;
            told.append(' ').append(at);
        }
        return told.toString();
    }
}
