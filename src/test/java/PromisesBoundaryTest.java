/** Each sentence of the promises that names a boundary, under its own words: just within, and just not. */
public final class PromisesBoundaryTest extends Checks {
    public static void main(String[] args) {
        promises1To4();
        promises5To8();
        promises9To11();
        promises12To14();
        promises15To18();
        finish();
    }

    private static void promises1To4() {
        under("Promise 1: no text, no keys, no flags, not stable, not once");
        LineSorter sorter = new LineSorter();
        due("lines, bytes, keys", sorter.lines() + " " + sorter.about(4) + " " + sorter.about(5), "0 0 0");
        due("calls on no text", sorter.sort() + " " + sorter.check() + " " + sorter.merge(1), "0 -1 0");
        dueAllowed("end(0) of no text", () -> sorter.end(0));
        dueIllegal("end(1) of no text", () -> sorter.end(1));
        dueOutOfBounds("no line to place", () -> sorter.place(0, 0, false));
        dueOutOfBounds("no line to compare", () -> sorter.compare(0, 0));
        feedTakesTheHighestFirst();
        endKeepsTheFirstN();
        waysTakesFlags0To127();
    }

    private static void feedTakesTheHighestFirst() {
        under("Promise 2: twenty bytes come behind the text, the highest of each number first");
        LineSorter sorter = new LineSorter();
        due("how many", sorter.feed(Integer.MIN_VALUE, Integer.MAX_VALUE, -1, 0, 1), 20);
        sorter.sort();
        int[] want = {128, 0, 0, 0, 127, 255, 255, 255, 255, 255, 255, 255, 0, 0, 0, 0, 0, 0, 0, 1};
        for (int k = 0; k < 20; k++) {
            due("byte " + k, sorter.byteAt(0, k), want[k]);
        }
        due("no byte 20", sorter.byteAt(0, 20), NONE);
        sorter.end(19);
        due("behind 19", sorter.feed(0x0a000000, 0, 0, 0, 0x0000000a), 39);
        due("10 as the highest and as the lowest byte", sorter.lines(), 2);
        sorter.end(38);
        due("lines without the last 10", sorter.lines(), 2);
    }

    private static void endKeepsTheFirstN() {
        under("Promise 3: it has not so many, or n is below 0");
        LineSorter sorter = withText("a\n\nb\nc");
        int[] lines = {0, 1, 1, 2, 3, 3, 4};
        dueIllegal("one too many", () -> sorter.end(7));
        dueIllegal("-1", () -> sorter.end(-1));
        for (int far : FAR_OUT) {
            dueIllegal("end(" + far + ")", () -> sorter.end(far));
        }
        due("all there behind the refused calls", sorter.about(4) + " " + sorter.lines(), "6 4");
        for (int n = 6; n >= 0; n--) {
            int keep = n;
            dueAllowed("end(" + n + ")", () -> sorter.end(keep));
            due("bytes of " + n, sorter.about(4), n);
            due("lines of " + n, sorter.lines(), lines[n]);
            dueIllegal("what is gone stays gone", () -> sorter.end(keep + 1));
        }
        due("feed begins again", sorter.feed(0x610a0000, 0, 0, 0, 0), 20);
        due("and its lines do", sorter.lines(), 2);
    }

    private static void waysTakesFlags0To127() {
        under("Promise 4: flags are not 0 .. 127");
        LineSorter sorter = withText("b\na\n");
        for (int flags = 0; flags <= 127; flags++) {
            int fine = flags;
            dueAllowed("flags " + flags, () -> sorter.ways(fine, false, false));
        }
        due("127 has 16", sorter.compare(0, 1), 0);
        dueIllegal("128", () -> sorter.ways(128, true, true));
        dueIllegal("-1", () -> sorter.ways(-1, true, true));
        dueIllegal("256", () -> sorter.ways(256, true, true));
        for (int far : FAR_OUT) {
            dueIllegal("flags " + far, () -> sorter.ways(far, true, true));
        }
        due("127 behind the refused calls", sorted(sorter), "0 1");
        sorter.ways(0, false, false);
        due("0 again", sorted(sorter), "1 0");
    }

    private static void promises5To8() {
        separatorIsNoneTo255ButNot10();
        keyTakesItsNumbers();
        keylessTellsHowManyThereWere();
    }

    private static void separatorIsNoneTo255ButNot10() {
        under("Promise 5: it is not NONE .. 255, or 10");
        LineSorter sorter = withText("a b\n");
        sorter.key(2, 1, 2, 0, 0);
        for (int c = 0; c <= 255; c++) {
            int separator = c;
            if (c == 10) {
                dueIllegal("10", () -> sorter.separator(10));
            } else {
                dueAllowed("separator " + c, () -> sorter.separator(separator));
            }
        }
        sorter.separator('a');
        due("a", span(sorter, 0, 0), "1..3");
        dueIllegal("10", () -> sorter.separator(10));
        dueIllegal("-2", () -> sorter.separator(-2));
        dueIllegal("256", () -> sorter.separator(256));
        for (int far : FAR_OUT) {
            dueIllegal("separator " + far, () -> sorter.separator(far));
        }
        due("a behind the refused calls", span(sorter, 0, 0), "1..3");
        sorter.separator(255);
        due("255", span(sorter, 0, 0), "3..3");
        sorter.separator(NONE);
        due("NONE", span(sorter, 0, 0), "1..3");
        sorter.separator(' ');
        due("a blank", span(sorter, 0, 0), "2..3");
        due("NONE is no byte 255", spanIn("a\u00ffb", NONE, 2, 1, 2, 0, 0), "3..3");
    }

    private static void keyTakesItsNumbers() {
        under("Promise 6: F or C is not 1 .. 1000, E or D not 0 .. 1000, or flags are not 0 .. 127");
        int[][] allowed = {
            {1, 1, 0, 0, 0}, {1000, 1, 0, 0, 0}, {1, 1000, 0, 0, 0}, {1, 1, 1, 0, 0}, {1, 1, 1000, 0, 0}, {1, 1, 0, 1, 0},
            {1, 1, 0, 1000, 0}, {1, 1, 0, 0, 1}, {1, 1, 0, 0, 127}, {1000, 1000, 1000, 1000, 127},
        };
        int[] lowest = {1, 1, 0, 0, 0};
        int[] highest = {1000, 1000, 1000, 1000, 127};
        LineSorter sorter = withText("a\n");
        for (int[] n : allowed) {
            due("allowed", sorter.key(n[0], n[1], n[2], n[3], n[4]), 1);
            sorter.keyless();
        }
        sorter.key(1, 1, 1, 1, 1);
        for (int which = 0; which < 5; which++) {
            dueKeyRefused(sorter, which, lowest[which] - 1);
            dueKeyRefused(sorter, which, highest[which] + 1);
            for (int far : FAR_OUT) {
                dueKeyRefused(sorter, which, far);
            }
        }
        due("one key behind the refused calls", sorter.about(5) + " " + span(sorter, 0, 0), "1 0..1");
        for (int count = 2; count <= 6; count++) {
            due("how many", sorter.key(1, 1, 0, 0, 0), count);
        }
        under("Promise 6: there are 6");
        dueUnsupported("a seventh", () -> sorter.key(1, 1, 0, 0, 0));
        dueUnsupported("and again", () -> sorter.key(1000, 1000, 1000, 1000, 127));
        dueKeyRefused(sorter, 0, 0);
        due("six behind the refused calls", sorter.about(5), 6);
        due("all six go", sorter.keyless(), 6);
        due("and there is room again", sorter.key(1, 1, 0, 0, 0), 1);
    }

    private static void dueKeyRefused(LineSorter sorter, int which, int number) {
        int[] n = {1, 1, 0, 0, 0};
        n[which] = number;
        dueIllegal("number " + which + " as " + number, () -> sorter.key(n[0], n[1], n[2], n[3], n[4]));
    }

    private static void keylessTellsHowManyThereWere() {
        under("Promise 7: no keys: how many there were");
        for (int count = 0; count <= 6; count++) {
            LineSorter sorter = new LineSorter();
            for (int k = 0; k < count; k++) {
                sorter.key(1, 1, 0, 0, 0);
            }
            due("of " + count, sorter.keyless(), count);
            due("again", sorter.keyless(), 0);
            due("about", sorter.about(5), 0);
        }
        under("Promise 8: a refused memory() keeps both numbers");
        LineSorter sorter = withText(descending(12));
        sorter.memory(2, 3);
        dueIllegal("only w is wrong", () -> sorter.memory(500, 17));
        dueIllegal("only m is wrong", () -> sorter.memory(501, 16));
        sorter.sort();
        due("runs and merges", sortOf(sorter), "6 3 24 0");
    }

    private static void promises9To11() {
        linesOfTexts();
        placeIsOfALineAndAKey();
        compareIsOfTwoLines();
    }

    private static void linesOfTexts() {
        under("Promise 9: 0 of none; behind a 10 at the end there is no further one");
        String[] texts = {"", "\n", "a", "a\n", "\na", "\n\n", "a\nb", "a\nb\n", "\n\n\n", "a\n\n"};
        int[] lines = {0, 1, 1, 1, 2, 2, 2, 2, 3, 2};
        for (int i = 0; i < texts.length; i++) {
            due("text " + i, withText(texts[i]).lines(), lines[i]);
        }
        due("more than can be sorted", withText(times(1001, "\n")).lines(), 1001);
    }

    private static void placeIsOfALineAndAKey() {
        under("Promise 10: there is no such line or key");
        LineSorter sorter = withText("ab\nc");
        due("the first line", span(sorter, 0, 0), "0..2");
        due("the last line", span(sorter, 1, 0), "0..1");
        dueOutOfBounds("line -1", () -> sorter.place(-1, 0, false));
        dueOutOfBounds("line 2", () -> sorter.place(2, 0, false));
        dueOutOfBounds("key -1 without any", () -> sorter.place(0, -1, true));
        dueOutOfBounds("key 1 without any", () -> sorter.place(0, 1, true));
        for (int count = 1; count <= 6; count++) {
            int behind = sorter.key(1, 1, 0, 0, 0);
            due("key " + (count - 1) + " of " + count, span(sorter, 0, count - 1), "0..2");
            dueOutOfBounds("key " + behind + " of " + count, () -> sorter.place(0, behind, false));
        }
        for (int far : FAR_OUT) {
            dueOutOfBounds("line " + far, () -> sorter.place(far, 0, false));
            dueOutOfBounds("key " + far, () -> sorter.place(0, far, true));
        }
        dueOutOfBounds("both", () -> sorter.place(2, 6, true));
        sorter.end(3);
        dueOutOfBounds("line 1, that is gone", () -> sorter.place(1, 0, false));
        sorter.end(0);
        dueOutOfBounds("line 0 of no text", () -> sorter.place(0, 0, false));
        LineSorter many = withText(times(1500, "ab\n"));
        due("a line beyond 1000", span(many, 1499, 0), "0..2");
        dueOutOfBounds("line 1500 of 1500", () -> many.place(1500, 0, false));
    }

    private static void compareIsOfTwoLines() {
        under("Promise 11: there is no such line");
        LineSorter sorter = withText("b\na");
        due("first and last", sorter.compare(0, 1), 1);
        due("last and first", sorter.compare(1, 0), -1);
        due("the last with itself", sorter.compare(1, 1), 0);
        dueOutOfBounds("first number too high", () -> sorter.compare(2, 0));
        dueOutOfBounds("second number too high", () -> sorter.compare(0, 2));
        dueOutOfBounds("first number below 0", () -> sorter.compare(-1, 0));
        dueOutOfBounds("second number below 0", () -> sorter.compare(0, -1));
        dueOutOfBounds("the same wrong number twice", () -> sorter.compare(2, 2));
        for (int far : FAR_OUT) {
            dueOutOfBounds("first " + far, () -> sorter.compare(far, 0));
            dueOutOfBounds("second " + far, () -> sorter.compare(0, far));
        }
        sorter.end(2);
        dueOutOfBounds("a line that is gone", () -> sorter.compare(0, 1));
        sorter.end(0);
        dueOutOfBounds("no text", () -> sorter.compare(0, 0));
        LineSorter many = withText(times(1500, "\n") + "a\n");
        due("lines beyond 1000", many.compare(1500, 1499), 1);
    }

    private static void promises12To14() {
        sortOfAtMost1000();
        checkOfHoweverMany();
        mergeOfPieces();
        mergeOfAtMost1000();
    }

    private static void sortOfAtMost1000() {
        under("Promise 12: there are more than 1000");
        LineSorter sorter = withText(descending(999));
        due("999", sorter.sort(), 999);
        append(sorter, "000\n");
        due("1000", sorter.sort(), 1000);
        due("all of them", resultOf(sorter), numbers(999, 0));
        append(sorter, "x");
        due("the result is gone", sorter.about(6), 0);
        dueUnsupported("1001", sorter::sort);
        due("still empty", sorter.about(6), 0);
        due("the latest sort's runs", runsOf(sorter), times(9, "100 ") + "100");
        due("bytes and lines", sorter.about(4) + " " + sorter.lines(), "4001 1001");
        sorter.end(4000);
        due("1000 again", sorter.sort(), 1000);
        due("1000 with the last one lacking its 10", withText(times(999, "\n") + "a").sort(), 1000);
        dueUnsupported("1001 with the last one lacking its 10", () -> withText(times(1000, "\n") + "a").sort());
        dueUnsupported("20000", () -> withText(times(20000, "\n")).sort());
        due("none", new LineSorter().sort(), 0);
        due("one", withText("a").sort(), 1);
    }

    private static void checkOfHoweverMany() {
        under("Promise 13: the first line (of the text, however many it has); NONE if there is none");
        due("no lines", new LineSorter().check(), NONE);
        due("one", withText("a").check(), NONE);
        due("two in order", withText("a\nb").check(), NONE);
        due("two out of order", withText("b\na").check(), 1);
        due("the first of many", withText("b\na\nd\nc\n").check(), 1);
        due("only the one in front of it matters", withText("b\nc\na\nb\na\n").check(), 2);
        due("the last of 1000", withText(times(999, "b\n") + "a").check(), 999);
        due("the last of 1001", withText(times(1000, "b\n") + "a").check(), 1000);
        due("the last of 10000", withText(times(9999, "b\n") + "a").check(), 9999);
        due("none of 10000", withText(times(10000, "b\n")).check(), NONE);
        under("Promise 13: if it is once, that is alike to that");
        LineSorter once = withText("a\nb\nb\nc");
        due("not once", once.check(), NONE);
        once.ways(0, false, true);
        due("once", once.check(), 2);
        once.ways(0, true, true);
        due("once and stable", once.check(), 2);
        once.ways(REVERSED, false, true);
        due("once and reversed", once.check(), 1);
    }

    private static void mergeOfPieces() {
        under("Promise 14: pieces of lines, so many each (the last one may have less)");
        String text = "c\nd\na\ne\nb\n";
        due("1", merged(withText(text), 1), "2 4 0 1 3");
        due("2", merged(withText(text), 2), "2 4 0 1 3");
        due("3", merged(withText(text), 3), "0 1 2 3 4");
        due("4", merged(withText(text), 4), "4 0 1 2 3");
        due("5, that is all", merged(withText(text), 5), "0 1 2 3 4");
        due("6, that is more", merged(withText(text), 6), "0 1 2 3 4");
        due("the highest number", merged(withText(text), Integer.MAX_VALUE), "0 1 2 3 4");
        due("of no lines", new LineSorter().merge(1) + " " + new LineSorter().merge(Integer.MAX_VALUE), "0 0");
        due("of one line", merged(withText("a"), 1), "0");
        under("Promise 14: once: not if it is alike to the one that went there before it");
        LineSorter once = withText("b\na\nb\nb\na\na\n");
        once.ways(0, false, true);
        due("one piece", merged(once, 6), "0 1 2 4");
        due("pieces of three", merged(once, 3), "0 1 2 4");
        due("pieces of one", merged(once, 1), "1 0");
        due("how many", once.merge(6), 4);
        due("not of the latest sort", once.about(3), 0);
        under("Promise 14: n is below 1");
        dueIllegal("0", () -> once.merge(0));
        dueIllegal("-1", () -> once.merge(-1));
        dueIllegal("the lowest number", () -> once.merge(Integer.MIN_VALUE));
        due("the result behind the refused calls", resultOf(once), "0 1 2 4");
    }

    private static void mergeOfAtMost1000() {
        under("Promise 14: there are more than 1000");
        LineSorter sorter = withText(descending(999) + "000\n");
        due("1000 pieces of one", merged(sorter, 1), numbers(999, 0));
        due("999 and one", sorter.merge(999), 1000);
        due("the last piece goes first", sorter.result(0) + " " + sorter.result(1) + " " + sorter.result(999), "999 0 998");
        due("1000 in a piece", merged(sorter, 1000), numbers(0, 999));
        append(sorter, "x");
        dueUnsupported("1001", () -> sorter.merge(1));
        dueUnsupported("1001 in a piece", () -> sorter.merge(1001));
        dueUnsupported("1001 in the largest piece", () -> sorter.merge(Integer.MAX_VALUE));
        due("the result behind the refused calls", sorter.about(6), 0);
        sorter.end(4000);
        due("1000 again", sorter.merge(500), 1000);
    }

    private static void promises15To18() {
        resultIsNoneWhenThereIsNone();
        byteAtIsNoneWhenThereIsNone();
        runIsNoneWhenThereIsNone();
        aboutIs0To6();
    }

    private static void resultIsNoneWhenThereIsNone() {
        under("Promise 15: NONE when there is none");
        LineSorter sorter = withText("b\na\nb\n");
        due("before any sort", sorter.result(0), NONE);
        sorter.sort();
        due("0 and 2 of three", sorter.result(0) + " " + sorter.result(2), "1 2");
        due("3 of three, and -1", sorter.result(3) + " " + sorter.result(-1), "-1 -1");
        sorter.ways(0, false, true);
        sorter.sort();
        due("1 and 2 of two", sorter.result(1) + " " + sorter.result(2), "0 -1");
        for (int far : FAR_OUT) {
            due("line " + far, sorter.result(far), NONE);
        }
        LineSorter most = withText(times(1000, "\n"));
        most.sort();
        due("999 and 1000 of 1000", most.result(999) + " " + most.result(1000), "999 -1");
    }

    private static void byteAtIsNoneWhenThereIsNone() {
        under("Promise 16: NONE when there is none");
        LineSorter sorter = withText("\u0000\u00ff\n\n\u0080");
        due("before any sort", sorter.byteAt(0, 0), NONE);
        sorter.sort();
        due("an empty line", sorter.byteAt(0, 0) + " " + sorter.byteAt(0, -1) + " " + sorter.byteAt(0, 1), "-1 -1 -1");
        due("0 and 255", sorter.byteAt(1, 0) + " " + sorter.byteAt(1, 1), "0 255");
        due("behind them, and before", sorter.byteAt(1, 2) + " " + sorter.byteAt(1, -1), "-1 -1");
        due("the last line", sorter.byteAt(2, 0) + " " + sorter.byteAt(2, 1) + " " + sorter.byteAt(2, -1), "128 -1 -1");
        due("no line -1, no line 3", sorter.byteAt(-1, 0) + " " + sorter.byteAt(3, 0), "-1 -1");
        for (int far : FAR_OUT) {
            due("line " + far, sorter.byteAt(far, 0), NONE);
            due("byte " + far, sorter.byteAt(1, far), NONE);
            due("both " + far, sorter.byteAt(far, far), NONE);
        }
        sorter.end(1);
        due("behind end", sorter.byteAt(0, 0), NONE);
    }

    private static void runIsNoneWhenThereIsNone() {
        under("Promise 17: of the latest sort() (merge() does not matter); NONE when there is none such");
        LineSorter sorter = withText("c\nb\na\n");
        due("before any sort", sorter.run(0), NONE);
        sorter.merge(1);
        due("behind a merge alone", sorter.run(0), NONE);
        sorter.memory(2, 2);
        sorter.sort();
        due("0 and 1 of two", sorter.run(0) + " " + sorter.run(1), "2 1");
        due("2 of two, and -1", sorter.run(2) + " " + sorter.run(-1), "-1 -1");
        for (int far : FAR_OUT) {
            due("run " + far, sorter.run(far), NONE);
        }
        sorter.merge(1);
        due("behind a merge", runsOf(sorter), "2 1");
        sorter.memory(3, 2);
        sorter.sort();
        due("the latest has one", sorter.run(0) + " " + sorter.run(1), "3 -1");
        sorter.end(0);
        due("behind end", sorter.run(0), 3);
        sorter.sort();
        due("of no lines", sorter.run(0), NONE);
        LineSorter most = withText(descending(1000));
        most.memory(2, 2);
        most.sort();
        due("499 and 500 of 500", most.run(499) + " " + most.run(500), "2 -1");
    }

    private static void aboutIs0To6() {
        under("Promise 18: of the latest sort() (0 without one); what is none of these");
        LineSorter sorter = withText("c\nb\na\na\n");
        sorter.merge(1);
        due("without a sort", sortOf(sorter), "0 0 0 0");
        sorter.memory(2, 2);
        sorter.ways(0, false, true);
        sorter.sort();
        due("with one", sortOf(sorter), "2 1 4 1");
        due("bytes, keys, lines of the result", sorter.about(4) + " " + sorter.about(5) + " " + sorter.about(6), "8 0 3");
        dueIllegal("-1", () -> sorter.about(-1));
        dueIllegal("7", () -> sorter.about(7));
        for (int far : FAR_OUT) {
            dueIllegal("about " + far, () -> sorter.about(far));
        }
        sorter.merge(4);
        due("behind a merge", sortOf(sorter) + " " + sorter.about(6), "2 1 4 1 3");
        sorter.end(0);
        due("behind end", sortOf(sorter) + " " + sorter.about(6), "2 1 4 1 0");
        sorter.sort();
        due("of no lines", sortOf(sorter), "0 0 0 0");
    }
}
