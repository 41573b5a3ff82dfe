import java.util.ArrayList;
import java.util.List;

/**
 * "A call that throws changes nothing": two objects have the same past, one of them is told a call that is refused, and
 * from then on both answer the same, whatever they are asked.
 */
public final class RefusedTest extends Checks {
    private static final String TEXT = "b:Aa 10\n a:x 9\n\nB:-0.5  z\nb:aA 10\nc\n\t:10\nB:2.50 q\n-7:y\nA:x 9\nb:Aa 10\nz z z:z\n"
            + "a:b\nd 1:5\n  e\n0:0\n~:~\n\u00e9 :\u0000\nb:aa 1\nA\na";

    private interface Step {
        void on(LineSorter sorter);
    }

    /** A past, told by its name. */
    private record Past(String name, Step way) {
        LineSorter made() {
            LineSorter sorter = new LineSorter();
            way.on(sorter);
            return sorter;
        }
    }

    private record Refused(String name, Class<? extends RuntimeException> due, Step call) { }

    public static void main(String[] args) {
        for (Past past : pasts()) {
            List<Refused> calls = refusedBy(past.made());
            List<String> want = future(past.made());
            for (Refused call : calls) {
                refuse(past, call, want);
            }
            refuseAll(past, calls, want);
        }
        everyExceptionOfTheFaceIsAmongThem();
        finish();
    }

    private static void refuse(Past past, Refused refused, List<String> want) {
        under(past.name() + ", " + refused.name());
        LineSorter sorter = past.made();
        dueThrown("the call", refused.due(), () -> refused.call().on(sorter));
        dueSame(future(sorter), want);
    }

    private static void refuseAll(Past past, List<Refused> calls, List<String> want) {
        under(past.name() + ", all refused calls");
        LineSorter sorter = past.made();
        for (Refused refused : calls) {
            dueThrown(refused.name(), refused.due(), () -> refused.call().on(sorter));
        }
        dueSame(future(sorter), want);
    }

    private static void dueSame(List<String> got, List<String> want) {
        for (int i = 0; i < want.size(); i++) {
            if (!got.get(i).equals(want.get(i))) {
                due("answer " + i + " behind it", got.get(i), want.get(i));
                return;
            }
        }
        due("answers behind it", got.size(), want.size());
    }

    // ---- pasts

    private static List<Past> pasts() {
        List<Past> pasts = new ArrayList<>();
        pasts.add(new Past("a new object", sorter -> { }));
        pasts.add(new Past("a text alone", sorter -> append(sorter, TEXT)));
        pasts.add(new Past("sorted", RefusedTest::sortedByKeys));
        pasts.add(new Past("sorted once", RefusedTest::sortedOnce));
        pasts.add(new Past("sorted and merged", RefusedTest::sortedAndMerged));
        pasts.add(new Past("six keys", RefusedTest::sixKeys));
        pasts.add(new Past("sorted, and then the text ended", RefusedTest::sortedAndEnded));
        pasts.add(new Past("sorted, and then 1001 lines", RefusedTest::sortedAndTooLong));
        pasts.add(new Past("a full text, sorted", RefusedTest::fullAndSorted));
        return pasts;
    }

    private static void sortedByKeys(LineSorter sorter) {
        append(sorter, TEXT);
        sorter.separator(':');
        sorter.key(2, 1, 2, 0, NUMBERS | REVERSED);
        sorter.key(1, 1, 1, 1, 0);
        sorter.ways(CAPITALS, true, false);
        sorter.memory(3, 3);
        sorter.sort();
    }

    private static void sortedOnce(LineSorter sorter) {
        append(sorter, TEXT);
        sorter.ways(CAPITALS | BLANKS_AT_BEGIN, false, true);
        sorter.key(1, 1, 1, 0, 0);
        sorter.memory(2, 2);
        sorter.sort();
    }

    private static void sortedAndMerged(LineSorter sorter) {
        sortedByKeys(sorter);
        sorter.ways(REVERSED, false, false);
        sorter.merge(4);
    }

    private static void sixKeys(LineSorter sorter) {
        append(sorter, TEXT);
        sorter.separator(' ');
        for (int k = 6; k >= 1; k--) {
            sorter.key(k, 1, k, 1, k % 2 == 0 ? REVERSED : 0);
        }
        sorter.memory(4, 2);
        sorter.sort();
    }

    private static void sortedAndEnded(LineSorter sorter) {
        sortedOnce(sorter);
        sorter.end(70);
    }

    private static void sortedAndTooLong(LineSorter sorter) {
        sortedOnce(sorter);
        append(sorter, "\n" + times(980, "x\n"));
    }

    private static void fullAndSorted(LineSorter sorter) {
        append(sorter, times(500, "y123456789x123456789 123456789:23456789\n"));
        sorter.key(1, 1, 1, 2, NUMBERS);
        sorter.memory(400, 5);
        sorter.sort();
    }

    // ---- refused calls

    private static List<Refused> refusedBy(LineSorter sorter) {
        List<Refused> calls = new ArrayList<>();
        addTextCalls(calls, sorter.about(4));
        addWayCalls(calls);
        addKeyCalls(calls, sorter.about(5));
        addMemoryCalls(calls);
        addLineCalls(calls, sorter.lines(), Math.max(1, sorter.about(5)));
        addSortCalls(calls, sorter.lines());
        for (int what : around(-1, 7)) {
            add(calls, "about(" + what + ")", IllegalArgumentException.class, x -> x.about(what));
        }
        return calls;
    }

    private static void add(List<Refused> calls, String name, Class<? extends RuntimeException> due, Step call) {
        calls.add(new Refused(name, due, call));
    }

    /** The first numbers that are not allowed, below and above, and those far out. */
    private static int[] around(int below, int above) {
        return new int[] {below, above, FAR_OUT[0], FAR_OUT[1], FAR_OUT[2], FAR_OUT[3]};
    }

    private static void addTextCalls(List<Refused> calls, int bytes) {
        if (bytes > 19980) {
            add(calls, "feed", IllegalStateException.class, x -> x.feed(0x0a0a0a0a, 1, 2, 3, 4));
        }
        for (int n : around(-1, bytes + 1)) {
            add(calls, "end(" + n + ")", IllegalArgumentException.class, x -> x.end(n));
        }
    }

    private static void addWayCalls(List<Refused> calls) {
        for (int flags : around(-1, 128)) {
            for (int ways = 0; ways < 4; ways++) {
                boolean stable = ways % 2 == 1;
                boolean once = ways / 2 == 1;
                add(calls, "ways(" + flags + ", " + stable + ", " + once + ")", IllegalArgumentException.class,
                        x -> x.ways(flags, stable, once));
            }
        }
        for (int c : around(-2, 256)) {
            add(calls, "separator(" + c + ")", IllegalArgumentException.class, x -> x.separator(c));
        }
        add(calls, "separator(10)", IllegalArgumentException.class, x -> x.separator(10));
    }

    private static void addKeyCalls(List<Refused> calls, int keys) {
        int[] below = {0, 0, -1, -1, -1};
        int[] above = {1001, 1001, 1001, 1001, 128};
        for (int which = 0; which < 5; which++) {
            for (int number : around(below[which], above[which])) {
                int[] n = {2, 1, 2, 0, REVERSED};
                n[which] = number;
                add(calls, "key with number " + which + " as " + number, IllegalArgumentException.class,
                        x -> x.key(n[0], n[1], n[2], n[3], n[4]));
            }
        }
        if (keys == 6) {
            add(calls, "key(1, 1, 0, 0, 32)", UnsupportedOperationException.class, x -> x.key(1, 1, 0, 0, REVERSED));
            add(calls, "key(1000, 1000, 1000, 1000, 127)", UnsupportedOperationException.class,
                    x -> x.key(1000, 1000, 1000, 1000, 127));
        }
    }

    private static void addMemoryCalls(List<Refused> calls) {
        for (int m : around(1, 501)) {
            add(calls, "memory(" + m + ", 7)", IllegalArgumentException.class, x -> x.memory(m, 7));
        }
        for (int w : around(1, 17)) {
            add(calls, "memory(7, " + w + ")", IllegalArgumentException.class, x -> x.memory(7, w));
        }
    }

    private static void addLineCalls(List<Refused> calls, int lines, int keys) {
        for (int line : around(-1, lines)) {
            add(calls, "place(" + line + ", 0, false)", IndexOutOfBoundsException.class, x -> x.place(line, 0, false));
            add(calls, "compare(" + line + ", 0)", IndexOutOfBoundsException.class, x -> x.compare(line, 0));
            add(calls, "compare(0, " + line + ")", IndexOutOfBoundsException.class, x -> x.compare(0, line));
        }
        for (int k : around(-1, keys)) {
            add(calls, "place(0, " + k + ", true)", IndexOutOfBoundsException.class, x -> x.place(0, k, true));
        }
    }

    private static void addSortCalls(List<Refused> calls, int lines) {
        for (int n : new int[] {0, -1, FAR_OUT[0]}) {
            add(calls, "merge(" + n + ")", IllegalArgumentException.class, x -> x.merge(n));
        }
        if (lines > 1000) {
            add(calls, "sort()", UnsupportedOperationException.class, LineSorter::sort);
            for (int n : new int[] {1, 1000, FAR_OUT[3]}) {
                add(calls, "merge(" + n + ")", UnsupportedOperationException.class, x -> x.merge(n));
            }
        }
    }

    private static void everyExceptionOfTheFaceIsAmongThem() {
        under("the pasts");
        List<String> found = new ArrayList<>();
        for (Past past : pasts()) {
            for (Refused refused : refusedBy(past.made())) {
                String told = refused.name().replaceAll("[( ].*", "") + " " + refused.due().getSimpleName();
                if (!found.contains(told)) {
                    found.add(told);
                }
            }
        }
        found.sort(null);
        due("what is refused", String.join(", ", found), "about IllegalArgumentException, compare IndexOutOfBoundsException,"
                + " end IllegalArgumentException, feed IllegalStateException, key IllegalArgumentException,"
                + " key UnsupportedOperationException, memory IllegalArgumentException, merge IllegalArgumentException,"
                + " merge UnsupportedOperationException, place IndexOutOfBoundsException, separator IllegalArgumentException,"
                + " sort UnsupportedOperationException, ways IllegalArgumentException");
    }

    // ---- what is asked behind them

    /** Everything that can be asked, and then again behind calls that show what can't be asked. */
    private static List<String> future(LineSorter sorter) {
        List<String> told = new ArrayList<>();
        tellAll(told, sorter);
        tellBehind(told, sorter, "sort", LineSorter::sort);
        tellBehind(told, sorter, "merge", x -> x.merge(3));
        tellBehind(told, sorter, "key", x -> x.key(1, 2, 2, 2, 0));
        tellBehind(told, sorter, "end", x -> x.end(Math.min(x.about(4), 60)));
        tellBehind(told, sorter, "sort", LineSorter::sort);
        tellBehind(told, sorter, "feed", x -> x.feed(0x620a610a, 0x203a7a0a, 0x0a410a42, 0x0a302e31, 0x0a2d310a));
        tellBehind(told, sorter, "sort", LineSorter::sort);
        told.add("keys " + sorter.keyless());
        tellBehind(told, sorter, "sort", LineSorter::sort);
        return told;
    }

    private static void tellBehind(List<String> told, LineSorter sorter, String name, Step step) {
        told.add(name + ": " + thrownBy(() -> step.on(sorter)));
        tellAll(told, sorter);
    }

    private static void tellAll(List<String> told, LineSorter sorter) {
        for (int what = 0; what <= 6; what++) {
            told.add("about " + what + ": " + sorter.about(what));
        }
        told.add("check: " + sorter.check());
        told.add("runs: " + runsOf(sorter) + " " + sorter.run(sorter.about(0)));
        told.add("result: " + resultOf(sorter) + " " + sorter.result(sorter.about(6)));
        for (int i = 0; i < sorter.about(6); i++) {
            told.add("bytes: " + bytesOf(sorter, i));
        }
        int lines = sorter.lines();
        told.add("lines: " + lines);
        for (int line = 0; line < Math.min(lines, 30); line++) {
            told.add("line " + line + ": " + placesOf(sorter, line) + " " + sorter.compare(line, lines - 1 - line));
        }
    }

    private static String bytesOf(LineSorter sorter, int i) {
        StringBuilder told = new StringBuilder();
        for (int k = 0; sorter.byteAt(i, k) != NONE; k++) {
            told.append((char) sorter.byteAt(i, k));
        }
        return told.toString();
    }

    private static String placesOf(LineSorter sorter, int line) {
        StringBuilder told = new StringBuilder();
        for (int k = 0; k < Math.max(1, sorter.about(5)); k++) {
            told.append(' ').append(span(sorter, line, k));
        }
        return told.toString();
    }
}
