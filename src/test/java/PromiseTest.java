/** Each promise by its number: ordinary inputs, the edges that the document names, and wrong inputs. */
public final class PromiseTest extends Checks {
    public static void main(String[] args) {
        promise1NewObject();
        promise2Feed();
        promise3End();
        promise4Ways();
        promise4Flags();
        promise5Separator();
        promise6Key();
        promise7Keyless();
        promise8Memory();
        promise9Lines();
        promise10PlaceWithoutSeparator();
        promise10PlaceWithSeparator();
        promise10PlaceEdges();
        promise11Compare();
        promise11CompareNumbers();
        promise12Sort();
        promise12Order();
        promise13Check();
        promise14Merge();
        promise15Result();
        promise16ByteAt();
        promise17Run();
        promise18About();
        throwingChangesNothing();
        finish();
    }

    private static void promise1NewObject() {
        under("promise 1");
        LineSorter sorter = new LineSorter();
        due("lines", sorter.lines(), 0);
        for (int what = 0; what <= 6; what++) {
            due("about " + what, sorter.about(what), 0);
        }
        due("keyless", sorter.keyless(), 0);
        due("result", sorter.result(0), NONE);
        due("run", sorter.run(0), NONE);
        append(sorter, "b:x\nB:y\na:x\n");
        due("no flags, not once", sorted(sorter), "1 2 0");
        sorter.key(2, 1, 2, 0, 0);
        due("no separator: the keys are empty, and all bytes count", sorted(sorter), "1 2 0");
        LineSorter alike = withText("x b\nx a\n");
        alike.key(1, 1, 1, 0, 0);
        due("not stable", sorted(alike), "1 0");
        LineSorter longText = withText(descending(401));
        longText.sort();
        due("memory of 100 lines at first", runsOf(longText), "100 100 100 100 1");
        due("4 runs are merged at first", longText.about(1), 2);
    }

    private static void promise2Feed() {
        under("promise 2");
        LineSorter sorter = new LineSorter();
        due("twenty bytes", sorter.feed(0x61626364, 0x00ff80ee, 0x65666768, 0x696a6b6c, 0x6d6e6f7a), 20);
        due("sorted", sorter.sort(), 1);
        int[] want = {'a', 'b', 'c', 'd', 0, 255, 128, 0xee, 'e', 'f', 'g', 'h', 'i', 'j', 'k', 'l', 'm', 'n', 'o', 'z'};
        for (int k = 0; k < 20; k++) {
            due("byte " + k, sorter.byteAt(0, k), want[k]);
        }
        due("twenty more", sorter.feed(0x0a0a0a0a, -1, Integer.MIN_VALUE, 0, 10), 40);
        due("the result is empty", sorter.about(6), 0);
        due("lines", sorter.lines(), 5);
        due("sorted again", sorter.sort(), 5);
        // The limit lies behind the 512th call, but nothing else may come of it either.
        LineSorter full = new LineSorter();
        for (int i = 1; i <= 1000; i++) {
            due("fed " + i, full.feed(0x0a0a0a0a, 0x0a0a0a0a, 0x0a0a0a0a, 0x0a0a0a0a, 0x0a0a0a0a), 20 * i);
        }
        dueThrown("more than 20000", IllegalStateException.class, () -> full.feed(0, 0, 0, 0, 0));
        due("20000 lines", full.lines(), 20000);
        full.end(19981);
        dueThrown("one too many", IllegalStateException.class, () -> full.feed(0, 0, 0, 0, 0));
        full.end(19980);
        due("just enough", full.feed(0, 0, 0, 0, 0), 20000);
    }

    private static void promise3End() {
        under("promise 3");
        LineSorter sorter = withText("a\nb\nc\n");
        sorter.sort();
        dueIllegal("end(7)", () -> sorter.end(7));
        dueIllegal("end(-1)", () -> sorter.end(-1));
        dueIllegal("end of the lowest number", () -> sorter.end(Integer.MIN_VALUE));
        due("the result stays when it throws", resultOf(sorter), "0 1 2");
        sorter.end(6);
        due("the result is empty though the text stays", sorter.about(6), 0);
        due("bytes", sorter.about(4), 6);
        sorter.end(5);
        due("lines without the last 10", sorter.lines(), 3);
        sorter.end(4);
        due("lines without the last line", sorter.lines(), 2);
        append(sorter, "a\n");
        due("fed behind the end", sorted(sorter), "0 2 1");
        sorter.end(0);
        due("no lines", sorter.lines(), 0);
        due("no bytes", sorter.about(4), 0);
    }

    private static void promise4Ways() {
        under("promise 4");
        LineSorter sorter = withText("x b\ny b\nx a\n");
        sorter.key(1, 1, 1, 0, 0);
        due("not stable", sorted(sorter), "2 0 1");
        sorter.ways(0, true, false);
        due("the result stays", resultOf(sorter), "2 0 1");
        due("stable", sorted(sorter), "0 2 1");
        sorter.ways(0, false, true);
        due("once", sorted(sorter), "0 1");
        sorter.ways(0, true, true);
        due("stable and once", sorted(sorter), "0 1");
        sorter.ways(REVERSED, false, false);
        due("all's flags are a key's that has none, and turn all bytes round", sorted(sorter), "1 0 2");
        sorter.ways(127, false, false);
        sorter.ways(0, false, false);
        due("back again", sorted(sorter), "2 0 1");
        dueIllegal("flags 128", () -> sorter.ways(128, true, true));
        dueIllegal("flags -1", () -> sorter.ways(-1, true, true));
        due("neither stable nor once behind a throw", sorted(sorter), "2 0 1");
    }

    private static void promise4Flags() {
        under("promise 4");
        due("blanks count", compared("  b", "a", 0), -1);
        due("blanks in front passed", compared("  b", "a", BLANKS_AT_BEGIN), 1);
        due("tabs in front passed", compared("\t b", "b", BLANKS_AT_BEGIN), 0);
        due("only blanks, letters, digits", compared("a-#b_", "ab", WORDS), 0);
        due("a tab is a blank", compared("a\tb", "ab", WORDS), -1);
        due("a space counts", compared("a b", "ab", WORDS), -1);
        due("digits count", compared("1", "2", WORDS), -1);
        due("both kinds of letters count", compared("Z", "a", WORDS), -1);
        due("neighbours of letters and digits do not", compared("/:@[`{", "", WORDS), 0);
        due("what is behind counts", compared("a--", "a-b", WORDS), -1);
        due("high bytes do not", compared("\u00e9a\u00ff", "a", WORDS), 0);
        due("small as capital", compared("abZz", "ABzZ", CAPITALS), 0);
        due("small ones stand before _", compared("a", "_", CAPITALS), -1);
        due("only a to z are raised", compared("{`", "[@", CAPITALS), 1);
        due("only 32 to 126", compared("\u001fa\u007f\u0000\u00ff\t", "a", PRINTED), 0);
        due("32 counts", compared(" a", "a", PRINTED), -1);
        due("126 counts", compared("~", "", PRINTED), 1);
        due("both: no tabs", compared("\ta-", "a", WORDS | PRINTED), 0);
        due("both: blanks", compared(" a-", "a", WORDS | PRINTED), -1);
        due("reversed", compared("a", "b", REVERSED), 1);
        due("reversed: the shorter one last", compared("a", "ab", REVERSED), 1);
        due("flags together", compared("  -aB", "Ab", BLANKS_AT_BEGIN | WORDS | CAPITALS), 0);
        due("numbers do not look at other flags", compared("-1.5", "1", NUMBERS | WORDS), -1);
    }

    private static void promise5Separator() {
        under("promise 5");
        LineSorter sorter = withText("a b:c\n");
        sorter.key(2, 1, 2, 0, 0);
        due("without one", span(sorter, 0, 0), "1..5");
        sorter.separator(':');
        due("a colon", span(sorter, 0, 0), "4..5");
        sorter.separator(NONE);
        due("none again", span(sorter, 0, 0), "1..5");
        sorter.separator(32);
        due("a blank", span(sorter, 0, 0), "2..5");
        dueIllegal("10", () -> sorter.separator(10));
        dueIllegal("256", () -> sorter.separator(256));
        dueIllegal("-2", () -> sorter.separator(-2));
        due("still the blank", span(sorter, 0, 0), "2..5");
        due("byte 0", spanIn("a\u0000b", 0, 2, 1, 2, 0, 0), "2..3");
        due("byte 255", spanIn("a\u00ffb", 255, 2, 1, 2, 0, 0), "2..3");
        due("byte 128", spanIn("a\u0080b", 128, 2, 1, 2, 0, 0), "2..3");
    }

    private static void promise6Key() {
        under("promise 6");
        LineSorter sorter = withText("a 2 x\na 1 y\nb 1 x\n");
        due("the first", sorter.key(2, 1, 2, 0, 0), 1);
        due("by field 2", sorted(sorter), "1 2 0");
        due("the second", sorter.key(1, 1, 1, 0, REVERSED), 2);
        due("then by field 1 reversed", sorted(sorter), "2 1 0");
        dueIllegal("F 0", () -> sorter.key(0, 1, 0, 0, 0));
        dueIllegal("F 1001", () -> sorter.key(1001, 1, 0, 0, 0));
        dueIllegal("C 0", () -> sorter.key(1, 0, 0, 0, 0));
        dueIllegal("C 1001", () -> sorter.key(1, 1001, 0, 0, 0));
        dueIllegal("E -1", () -> sorter.key(1, 1, -1, 0, 0));
        dueIllegal("E 1001", () -> sorter.key(1, 1, 1001, 0, 0));
        dueIllegal("D -1", () -> sorter.key(1, 1, 0, -1, 0));
        dueIllegal("D 1001", () -> sorter.key(1, 1, 0, 1001, 0));
        dueIllegal("flags -1", () -> sorter.key(1, 1, 0, 0, -1));
        dueIllegal("flags 128", () -> sorter.key(1, 1, 0, 0, 128));
        due("still two", sorter.about(5), 2);
        due("the highest numbers", sorter.key(1000, 1000, 1000, 1000, 127), 3);
        due("the lowest numbers", sorter.key(1, 1, 0, 0, 0), 4);
        due("the fifth", sorter.key(1, 1, 0, 1000, 0), 5);
        due("the sixth", sorter.key(1, 1, 1000, 0, 0), 6);
        dueUnsupported("a seventh", () -> sorter.key(1, 1, 0, 0, 0));
        dueIllegal("a wrong seventh", () -> sorter.key(0, 1, 0, 0, 0));
        due("still six", sorter.about(5), 6);
        LineSorter own = withText("B\nb\na\n");
        own.ways(REVERSED, true, false);
        own.key(1, 1, 0, 0, CAPITALS);
        due("a key with flags of its own has none of all's", sorted(own), "2 0 1");
        own.ways(REVERSED, false, false);
        due("though all's turn the last look at all bytes", sorted(own), "2 1 0");
    }

    private static void promise7Keyless() {
        under("promise 7");
        LineSorter sorter = withText("a 2\nb 1\n");
        due("none", sorter.keyless(), 0);
        sorter.key(2, 1, 0, 0, 0);
        sorter.key(1, 1, 0, 0, 0);
        due("by keys", sorted(sorter), "1 0");
        due("two", sorter.keyless(), 2);
        due("the result stays", resultOf(sorter), "1 0");
        due("no more", sorter.about(5), 0);
        due("by the whole line", sorted(sorter), "0 1");
        due("none again", sorter.keyless(), 0);
        for (int i = 1; i <= 6; i++) {
            due("new keys", sorter.key(1, 1, 1, 0, 0), i);
        }
        due("six", sorter.keyless(), 6);
    }

    private static void promise8Memory() {
        under("promise 8");
        LineSorter sorter = withText("9\n8\n7\n6\n5\n4\n3\n2\n1\n");
        sorter.memory(2, 2);
        sorter.sort();
        due("runs of two", runsOf(sorter), "2 2 2 2 1");
        due("merges by twos", sorter.about(1), 4);
        sorter.memory(2, 16);
        sorter.sort();
        due("one merge", sorter.about(1), 1);
        sorter.memory(500, 2);
        due("what the latest sort made stays", sorter.about(0), 5);
        sorter.sort();
        due("one run", runsOf(sorter), "9");
        dueIllegal("m 1", () -> sorter.memory(1, 2));
        dueIllegal("m 501", () -> sorter.memory(501, 2));
        dueIllegal("w 1", () -> sorter.memory(2, 1));
        dueIllegal("w 17", () -> sorter.memory(2, 17));
        dueIllegal("m -1", () -> sorter.memory(-1, 4));
        sorter.sort();
        due("memory as before", runsOf(sorter), "9");
        due("the result by any memory", resultOf(sorter), "8 7 6 5 4 3 2 1 0");
    }

    private static void promise9Lines() {
        under("promise 9");
        due("no text", withText("").lines(), 0);
        due("an empty line", withText("\n").lines(), 1);
        due("a line without 10", withText("a").lines(), 1);
        due("a line with 10", withText("a\n").lines(), 1);
        due("behind a 10", withText("a\nb").lines(), 2);
        due("empty lines", withText("\n\n").lines(), 2);
        due("only 10 ends a line", withText("\r\u0000\u008a\u000b").lines(), 1);
        due("more than can be sorted", withText(times(1500, "\n")).lines(), 1500);
    }

    private static void promise10PlaceWithoutSeparator() {
        under("promise 10");
        String line = "  ab \tcd  ";
        due("field 1", spanIn(line, NONE, 1, 1, 1, 0, 0), "0..4");
        due("field 2", spanIn(line, NONE, 2, 1, 2, 0, 0), "4..8");
        due("blanks alone at the end are a field", spanIn(line, NONE, 3, 1, 3, 0, 0), "8..10");
        due("no field 4", spanIn(line, NONE, 4, 1, 4, 0, 0), "10..10");
        due("behind blanks", spanIn(line, NONE, 2, 1, 2, 0, BLANKS_AT_BEGIN), "6..8");
        due("behind blanks up to the line's end", spanIn(line, NONE, 3, 1, 3, 0, BLANKS_AT_BEGIN), "10..10");
        due("flag 64 is not for the begin, nor for a field's end", spanIn(line, NONE, 2, 1, 2, 0, BLANKS_AT_END), "4..8");
        due("character 2", spanIn(line, NONE, 2, 2, 2, 0, 0), "5..8");
        due("character 2 behind blanks", spanIn(line, NONE, 2, 2, 2, 0, BLANKS_AT_BEGIN), "7..8");
        due("a character in the next field", spanIn(line, NONE, 1, 6, 0, 0, 0), "5..10");
        due("the last place", spanIn(line, NONE, 1, 11, 0, 0, 0), "10..10");
        due("no such place", spanIn(line, NONE, 1, 12, 0, 0, 0), "10..10");
        due("D", spanIn(line, NONE, 1, 1, 2, 1, 0), "0..5");
        due("D behind blanks", spanIn(line, NONE, 1, 1, 2, 1, BLANKS_AT_END), "0..7");
        due("flag 1 is not for the end", spanIn(line, NONE, 2, 1, 2, 1, BLANKS_AT_BEGIN), "6..5");
        due("D at the line's end at most", spanIn(line, NONE, 1, 1, 2, 7, 0), "0..10");
        due("D behind blanks at the line's end", spanIn(line, NONE, 1, 1, 3, 1, BLANKS_AT_END), "0..10");
        due("no field E", spanIn(line, NONE, 1, 1, 4, 1, 0), "0..10");
        due("E 0 with a D", spanIn(line, NONE, 1, 1, 0, 3, 0), "0..10");
        due("an end before the begin", spanIn(line, NONE, 2, 1, 1, 1, 0), "4..1");
        due("an empty line has no field", spanIn("", NONE, 1, 1, 1, 0, 0), "0..0");
        due("blanks alone", spanIn(" \t", NONE, 1, 1, 1, 0, 0), "0..2");
        due("blanks alone, passed", spanIn(" \t", NONE, 1, 1, 1, 0, BLANKS_AT_BEGIN), "2..2");
        due("blanks alone are one field only", spanIn(" \t", NONE, 2, 1, 1, 1, 0), "2..1");
    }

    private static void promise10PlaceWithSeparator() {
        under("promise 10");
        String line = ":a b::  :c";
        due("before the first separator", spanIn(line, ':', 1, 1, 1, 0, 0), "0..0");
        due("between", spanIn(line, ':', 2, 1, 2, 0, 0), "1..4");
        due("an empty one", spanIn(line, ':', 3, 1, 3, 0, 0), "5..5");
        due("blanks", spanIn(line, ':', 4, 1, 4, 0, 0), "6..8");
        due("blanks passed up to the field's end", spanIn(line, ':', 4, 1, 4, 0, BLANKS_AT_BEGIN), "8..8");
        due("behind the last", spanIn(line, ':', 5, 1, 5, 0, 0), "9..10");
        due("no field 6", spanIn(line, ':', 6, 1, 6, 0, 0), "10..10");
        due("C beyond the field", spanIn(line, ':', 2, 5, 2, 6, 0), "5..7");
        due("D behind blanks", spanIn(line, ':', 1, 1, 4, 1, BLANKS_AT_END), "0..9");
        due("an empty field at the end", spanIn("a:", ':', 2, 1, 2, 0, 0), "2..2");
        due("an empty field at the end is there", spanIn("a:", ':', 1, 1, 2, 0, 0), "0..2");
        due("nothing behind it", spanIn("a:", ':', 3, 1, 1, 0, 0), "2..1");
        due("an empty line has one field", spanIn("", ':', 1, 1, 1, 0, 0), "0..0");
        due("a blank separator is not passed", spanIn("a  b", ' ', 2, 1, 2, 1, BLANKS_AT_BEGIN | BLANKS_AT_END), "2..3");
        due("another blank is", spanIn("a \tb", ' ', 2, 1, 2, 1, BLANKS_AT_BEGIN | BLANKS_AT_END), "3..4");
        due("a tab separator is not passed", spanIn("a\t \tb", '\t', 2, 1, 2, 0, BLANKS_AT_BEGIN), "3..3");
    }

    private static void promise10PlaceEdges() {
        under("promise 10");
        LineSorter sorter = withText("x\n  ab\n");
        due("the key without any", span(sorter, 1, 0), "0..4");
        sorter.ways(BLANKS_AT_BEGIN, false, false);
        due("it has all's flags", span(sorter, 1, 0), "2..4");
        dueOutOfBounds("line -1", () -> sorter.place(-1, 0, false));
        dueOutOfBounds("line 2", () -> sorter.place(2, 0, true));
        dueOutOfBounds("key 1 without any", () -> sorter.place(0, 1, false));
        dueOutOfBounds("key -1", () -> sorter.place(0, -1, false));
        sorter.key(1, 2, 1, 1, 0);
        sorter.key(1, 2, 1, 1, NUMBERS);
        due("flags 0 are all's", span(sorter, 1, 0), "3..1");
        due("other flags are the key's own", span(sorter, 1, 1), "1..1");
        dueOutOfBounds("key 2 of two", () -> sorter.place(0, 2, true));
        sorter.end(0);
        dueOutOfBounds("no text", () -> sorter.place(0, 0, false));
    }

    private static void promise11Compare() {
        under("promise 11");
        due("first", compared("a", "b", 0), -1);
        due("alike", compared("a", "a", 0), 0);
        due("the shorter one", compared("a", "ab", 0), -1);
        due("the empty one", compared("", "\u0000", 0), -1);
        due("bytes are 0 to 255", compared("\u00ff", "a", 0), 1);
        due("127 and 128", compared("\u007f", "\u0080", 0), -1);
        LineSorter sorter = withText("x 1 b\nx 2 a\nx 1 a\n");
        sorter.key(1, 1, 1, 0, 0);
        due("by keys and nothing else", sorter.compare(0, 2), 0);
        sorter.key(2, 1, 2, 0, REVERSED);
        due("by the second key, reversed", sorter.compare(0, 1), 1);
        due("a line with itself", sorter.compare(1, 1), 0);
        dueOutOfBounds("line 3", () -> sorter.compare(0, 3));
        dueOutOfBounds("line -1", () -> sorter.compare(-1, 0));
        dueOutOfBounds("both", () -> sorter.compare(3, 3));
        LineSorter empty = withText("b a\na b\n");
        empty.key(2, 1, 1, 1, 0);
        due("a key that ends before it begins is empty", empty.compare(0, 1), 0);
        empty.keyless();
        empty.key(2, 1, 1, 1, NUMBERS);
        due("an empty number is 0", empty.compare(0, 1), 0);
    }

    private static void promise11CompareNumbers() {
        under("promise 11");
        due("by size", compared("9", "10", NUMBERS), -1);
        due("zeros in front", compared("007", "7", NUMBERS), 0);
        due("blanks in front", compared(" \t7", "7", NUMBERS), 0);
        due("fractions", compared("1.5", "1.45", NUMBERS), 1);
        due("zeros at the end", compared("1.500", "1.5", NUMBERS), 0);
        due("a point alone", compared("3.", "3", NUMBERS), 0);
        due("no digits in front of the point", compared(".5", "0.5", NUMBERS), 0);
        due("a small fraction", compared(".05", ".5", NUMBERS), -1);
        due("a longer fraction", compared("0.1", "0.11", NUMBERS), -1);
        due("below 0", compared("-2", "1", NUMBERS), -1);
        due("both below 0", compared("-2", "-10", NUMBERS), 1);
        due("fractions below 0", compared("-.5", "-.4", NUMBERS), -1);
        due("-0", compared("-0", "0", NUMBERS), 0);
        due("-0.00", compared("-0.00", "", NUMBERS), 0);
        due("no digits", compared("abc", "0", NUMBERS), 0);
        due("a minus alone", compared("-", "0", NUMBERS), 0);
        due("a minus before a blank", compared("- 5", "0", NUMBERS), 0);
        due("two minuses", compared("--5", "0", NUMBERS), 0);
        due("a plus is no sign", compared("+5", "0", NUMBERS), 0);
        due("what is behind", compared("5e9", "5x", NUMBERS), 0);
        due("a second point", compared("1.2.9", "1.2", NUMBERS), 0);
        due("reversed", compared("9", "10", NUMBERS | REVERSED), 1);
        due("longer than a long", compared("123456789012345678901234567890", "123456789012345678901234567891", NUMBERS), -1);
        due("many digits", compared("99999999999999999999", "100000000000000000000", NUMBERS), -1);
        LineSorter sorter = withText("x12\nx13\n");
        sorter.key(1, 2, 1, 2, NUMBERS);
        due("a number ends with its key", sorter.compare(0, 1), 0);
    }

    private static void promise12Sort() {
        under("promise 12");
        due("no lines", new LineSorter().sort(), 0);
        LineSorter sorter = withText("c\na\n\nb");
        due("how many", sorter.sort(), 4);
        due("sorted", resultOf(sorter), "2 1 3 0");
        due("the bytes stay", sorter.about(4), 6);
        due("and so do the lines", sorter.compare(0, 1), 1);
        sorter.ways(0, false, true);
        append(sorter, "\nb\na\n");
        due("once", sorter.sort(), 4);
        due("the first one stays", resultOf(sorter), "2 1 3 0");
        LineSorter most = withText(times(1000, "\n"));
        due("1000 lines", most.sort(), 1000);
        due("equal lines by their numbers", most.result(999), 999);
        append(most, "a");
        dueUnsupported("1001 lines", most::sort);
        LineSorter alike = withText("a 3\nb 1\na 2\nb 1\na 1\n");
        alike.key(1, 1, 1, 0, 0);
        alike.ways(0, false, true);
        alike.memory(2, 2);
        due("the first of each stays by any memory", sorted(alike), "0 1");
    }

    private static void promise12Order() {
        under("promise 12");
        LineSorter sorter = withText("a z\na b\nA b\na b\n");
        sorter.key(1, 1, 1, 0, CAPITALS);
        due("alike ones by all bytes, then by number", sorted(sorter), "2 1 3 0");
        sorter.ways(REVERSED, false, false);
        due("all bytes the other way round, numbers not", sorted(sorter), "0 1 3 2");
        sorter.ways(0, true, false);
        due("stable", sorted(sorter), "0 1 2 3");
        sorter.keyless();
        sorter.key(1, 1, 1, 0, CAPITALS | REVERSED);
        due("a reversed key leaves the order of numbers", sorted(sorter), "0 1 2 3");
        sorter.ways(0, false, false);
        due("a key's own reverse does not turn all bytes round", sorted(sorter), "2 1 3 0");
        sorter.ways(CAPITALS | WORDS, false, false);
        due("all bytes are without flags", sorted(sorter), "2 1 3 0");
    }

    private static void promise13Check() {
        under("promise 13");
        due("no lines", new LineSorter().check(), NONE);
        due("one line", withText("a").check(), NONE);
        LineSorter sorter = withText("a\nb\nb\nc\nb\na\n");
        due("the first one out of order", sorter.check(), 4);
        sorter.ways(0, false, true);
        due("once: an alike one", sorter.check(), 2);
        sorter.ways(REVERSED, false, false);
        due("reversed", sorter.check(), 1);
        LineSorter alike = withText("x b\nx a\n");
        alike.key(1, 1, 1, 0, 0);
        due("by all bytes", alike.check(), 1);
        alike.ways(REVERSED, false, false);
        due("by all bytes the other way round", alike.check(), NONE);
        alike.ways(0, true, false);
        due("stable", alike.check(), NONE);
        alike.ways(0, true, true);
        due("once, though stable", alike.check(), 1);
        LineSorter many = withText(times(1200, "\n") + "b\na\n");
        due("however many lines", many.check(), 1201);
        many.end(1202);
        due("numbers aside", many.check(), NONE);
        LineSorter kept = withText("b\na\n");
        kept.sort();
        kept.check();
        due("the result stays", resultOf(kept), "1 0");
    }

    private static void promise14Merge() {
        under("promise 14");
        due("no lines", new LineSorter().merge(1), 0);
        LineSorter sorter = withText("a\nd\nb\nc\nc\n");
        due("pieces of two", merged(sorter, 2), "0 2 3 4 1");
        due("how many", sorter.merge(2), 5);
        due("pieces of one are sorted", merged(sorter, 1), "0 2 3 4 1");
        due("one piece stays", merged(sorter, 5), "0 1 2 3 4");
        due("a piece longer than all", merged(sorter, Integer.MAX_VALUE), "0 1 2 3 4");
        dueIllegal("pieces of none", () -> sorter.merge(0));
        dueIllegal("pieces of the lowest number", () -> sorter.merge(Integer.MIN_VALUE));
        due("the result stays when it throws", resultOf(sorter), "0 1 2 3 4");
        sorter.ways(0, false, true);
        due("once", merged(sorter, 2), "0 2 3 1");
        LineSorter unsorted = withText("c\na\nb\nb\na\n");
        due("pieces out of order", merged(unsorted, 2), "4 2 3 0 1");
        unsorted.ways(0, false, true);
        due("alike ones apart both go", merged(unsorted, 2), "4 2 0 1");
        due("in one piece", merged(unsorted, 5), "0 1 2 4");
        LineSorter most = withText(times(1000, "\n"));
        due("1000 lines", most.merge(1), 1000);
        append(most, "a");
        dueUnsupported("1001 lines", () -> most.merge(1));
        dueIllegal("pieces of none of 1001 lines", () -> most.merge(0));
    }

    private static void promise15Result() {
        under("promise 15");
        LineSorter sorter = withText("b\na\n");
        due("empty at first", sorter.result(0), NONE);
        sorter.sort();
        due("line 0", sorter.result(0), 1);
        due("line 1", sorter.result(1), 0);
        due("line 2", sorter.result(2), NONE);
        due("line -1", sorter.result(-1), NONE);
        due("the highest line", sorter.result(Integer.MAX_VALUE), NONE);
        sorter.separator(':');
        sorter.ways(32, true, true);
        sorter.key(1, 1, 0, 0, 0);
        sorter.memory(2, 2);
        sorter.lines();
        sorter.place(0, 0, true);
        sorter.compare(0, 1);
        sorter.check();
        sorter.about(0);
        due("other calls leave it", resultOf(sorter), "1 0");
        sorter.merge(2);
        due("merge makes a new one", resultOf(sorter), "0 1");
        sorter.feed(0, 0, 0, 0, 0);
        due("empty behind feed", sorter.result(0), NONE);
        sorter.sort();
        sorter.end(4);
        due("empty behind end", sorter.result(0), NONE);
    }

    private static void promise16ByteAt() {
        under("promise 16");
        LineSorter sorter = withText("b\u00ff\u0000\n\na");
        due("no result", sorter.byteAt(0, 0), NONE);
        sorter.sort();
        due("an empty line", sorter.byteAt(0, 0), NONE);
        due("the last line of the text", sorter.byteAt(1, 0), (int) 'a');
        due("behind the text", sorter.byteAt(1, 1), NONE);
        due("byte 0", sorter.byteAt(2, 0), (int) 'b');
        due("255 is not NONE", sorter.byteAt(2, 1), 255);
        due("0", sorter.byteAt(2, 2), 0);
        due("no 10", sorter.byteAt(2, 3), NONE);
        due("byte -1", sorter.byteAt(2, -1), NONE);
        due("no line 3", sorter.byteAt(3, 0), NONE);
        due("no line -1", sorter.byteAt(-1, 0), NONE);
        due("the highest numbers", sorter.byteAt(2, Integer.MAX_VALUE), NONE);
    }

    private static void promise17Run() {
        under("promise 17");
        LineSorter sorter = withText("3\n1\n2\n5\n4\n0\n6\n");
        due("without a sort", sorter.run(0), NONE);
        sorter.memory(2, 2);
        sorter.sort();
        // Out go 1 2 3 4 5 6; 0 comes when 4 has gone, and waits for the next run.
        due("runs", runsOf(sorter), "6 1");
        due("run 2", sorter.run(2), NONE);
        due("run -1", sorter.run(-1), NONE);
        sorter.merge(1);
        due("merge does not matter", runsOf(sorter), "6 1");
        sorter.feed(0, 0, 0, 0, 0);
        due("nor does feed", runsOf(sorter), "6 1");
        sorter.end(0);
        sorter.sort();
        due("no lines have no runs", sorter.run(0), NONE);
        LineSorter equal = withText("b\na\na\na\na\n");
        equal.memory(2, 2);
        equal.sort();
        due("equal lines that come later are not before those that went", runsOf(equal), "5");
        LineSorter bytes = withText("x b\nx c\nx a\nx d\n");
        bytes.key(1, 1, 1, 0, 0);
        bytes.memory(2, 2);
        bytes.sort();
        due("runs by all bytes", runsOf(bytes), "3 1");
        bytes.ways(0, true, false);
        bytes.sort();
        due("runs of alike lines", runsOf(bytes), "4");
        bytes.ways(0, false, true);
        bytes.sort();
        due("runs have all lines, once too", runsOf(bytes), "4");
    }

    private static void promise18About() {
        under("promise 18");
        LineSorter sorter = withText("9\n8\n7\n6\n5\n4\n3\n2\n1\n9\n");
        sorter.memory(2, 2);
        sorter.ways(0, false, true);
        sorter.key(1, 1, 0, 0, 0);
        sorter.sort();
        due("lengths", runsOf(sorter), "2 2 2 3 1");
        due("runs", sorter.about(0), 5);
        // 4 of 2 and 2, 5 of 2 and 3, 5 of 1 and 4, and then all ten.
        due("merges", sorter.about(1), 4);
        due("lines moved", sorter.about(2), 4 + 5 + 5 + 10);
        due("lines gone", sorter.about(3), 1);
        due("bytes", sorter.about(4), 20);
        due("keys", sorter.about(5), 1);
        due("lines of the result", sorter.about(6), 9);
        sorter.merge(10);
        due("a merge's lines", sorter.about(6), 10);
        due("merge leaves the rest", sortOf(sorter), "5 4 24 1");
        sorter.memory(2, 3);
        sorter.ways(0, false, false);
        sorter.sort();
        due("merges by threes", sortOf(sorter), "5 2 16 0");
        sorter.memory(100, 3);
        sorter.sort();
        due("one run", sortOf(sorter), "1 0 0 0");
        sorter.end(0);
        due("of the latest sort though the text is gone", sorter.about(0), 1);
        sorter.sort();
        due("no lines", sortOf(sorter), "0 0 0 0");
        dueIllegal("about -1", () -> sorter.about(-1));
        dueIllegal("about 7", () -> sorter.about(7));
    }

    private static void throwingChangesNothing() {
        under("promise 12");
        LineSorter sorter = withText("3\n1\n2\n1\n");
        sorter.memory(2, 2);
        sorter.ways(0, false, true);
        sorter.sort();
        append(sorter, times(1000, "\n"));
        dueUnsupported("too many lines to sort", sorter::sort);
        dueUnsupported("too many lines to merge", () -> sorter.merge(3));
        due("runs stay", runsOf(sorter), "3 1");
        due("what about tells stays", sortOf(sorter), "2 1 4 1");
        sorter.end(8);
        due("sorted", sorted(sorter), "1 2 0");
        dueIllegal("merge", () -> sorter.merge(-5));
        dueIllegal("end", () -> sorter.end(9));
        dueIllegal("memory", () -> sorter.memory(3, 17));
        dueIllegal("memory", () -> sorter.memory(501, 3));
        dueIllegal("ways", () -> sorter.ways(200, false, false));
        due("the result stays", resultOf(sorter), "1 2 0");
        due("sorted as before", sorted(sorter), "1 2 0");
        due("in runs as before", runsOf(sorter), "3 1");
    }
}
