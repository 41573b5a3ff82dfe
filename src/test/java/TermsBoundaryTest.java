/** Each sentence of "What it is" and "Terms" that names a boundary, under its own words: just within, and just not. */
public final class TermsBoundaryTest extends Checks {
    public static void main(String[] args) {
        whatItIs();
        termsText();
        termsFields();
        termsFlags();
        termsKeys();
        termsCompared();
        termsOrder();
        termsSorting();
        termsResult();
        finish();
    }

    // ---- What it is

    private static void whatItIs() {
        for512CallsOfFeed();
        for512CallsOfSortAndMerge();
        for512CallsOfKeys();
        for512RefusedCalls();
    }

    private static void for512CallsOfFeed() {
        under("at most 512 calls: feeds");
        LineSorter sorter = new LineSorter();
        for (int i = 1; i <= 510; i++) {
            due("feed " + i, sorter.feed(0x0a0a0a0a, 0x0a0a0a0a, 0x0a0a0a0a, 0x0a0a0a0a, 0x0a0a0a0a), 20 * i);
        }
        due("call 511", sorter.lines(), 10200);
        due("call 512", sorter.check(), NONE);
    }

    private static void for512CallsOfSortAndMerge() {
        under("at most 512 calls: sorts and merges");
        LineSorter sorter = new LineSorter();
        for (int i = 1; i <= 50; i++) {
            sorter.feed(0x0a0a0a0a, 0x0a0a0a0a, 0x0a0a0a0a, 0x0a0a0a0a, 0x0a0a0a0a);
        }
        for (int call = 51; call <= 510; call++) {
            due("call " + call, call % 2 == 0 ? sorter.sort() : sorter.merge(call), 1000);
        }
        due("call 511", sorter.result(999), 999);
        due("call 512", sorter.run(0), 1000);
    }

    private static void for512CallsOfKeys() {
        under("at most 512 calls: keys");
        LineSorter sorter = new LineSorter();
        for (int call = 1; call <= 511; call++) {
            due("call " + call, call % 7 == 0 ? sorter.keyless() : sorter.key(1, 1, 0, 0, 0), call % 7 == 0 ? 6 : call % 7);
        }
        due("call 512", sorter.key(1, 1, 0, 0, 0), 1);
    }

    private static void for512RefusedCalls() {
        under("at most 512 calls: refused ones");
        LineSorter sorter = new LineSorter();
        for (int call = 1; call <= 511; call++) {
            dueOutOfBounds("call " + call, () -> sorter.compare(0, 0));
        }
        due("call 512", sorter.feed(0, 0, 0, 0, 0), 20);
    }

    // ---- Terms: the text

    private static void termsText() {
        textHasAtMost20000Bytes();
        textGrowsFromAnyLength();
        lastLineMayLackIts10();
        lastLineWithAnythingBehindTheText();
        linesHaveNumbersFrom0();
        bytesAreToldWithoutThe10();
        blanksAre32And9();
    }

    private static LineSorter full() {
        return withText(times(10000, "x\n"));
    }

    private static void textHasAtMost20000Bytes() {
        under("THE TEXT has at most 20000 bytes");
        LineSorter sorter = full();
        due("a full one", sorter.about(4), 20000);
        due("its lines", sorter.lines(), 10000);
        dueThrown("20 more", IllegalStateException.class, () -> sorter.feed(0, 0, 0, 0, 0));
        due("bytes behind the refused call", sorter.about(4), 20000);
        due("lines behind the refused call", sorter.lines(), 10000);
        due("check of a full one", sorter.check(), NONE);
        due("the last line of a full one", sorter.compare(0, 9999), 0);
        sorter.end(19981);
        dueThrown("20001 in all", IllegalStateException.class, () -> sorter.feed(0, 0, 0, 0, 0));
        due("bytes behind it", sorter.about(4), 19981);
        sorter.end(19980);
        due("20000 in all", sorter.feed(0x610a610a, 0x610a610a, 0x610a610a, 0x610a610a, 0x610a610a), 20000);
        due("lines again", sorter.lines(), 10000);
        LineSorter breaks = withText(times(20000, "\n"));
        due("as many lines as there can be", breaks.lines(), 20000);
        due("the last one of them", breaks.place(19999, 0, true), 0);
        dueOutOfBounds("one more", () -> breaks.place(20000, 0, true));
        LineSorter oneLine = withText(times(20000, "x"));
        due("the longest line", oneLine.place(0, 0, true), 20000);
        due("sorted", oneLine.sort(), 1);
        due("its last byte", oneLine.byteAt(0, 19999), (int) 'x');
        due("behind it", oneLine.byteAt(0, 20000), NONE);
    }

    private static void textGrowsFromAnyLength() {
        under("THE TEXT has at most 20000 bytes, from any length on");
        for (int first = 0; first < 20; first++) {
            LineSorter sorter = withText(times(first, "\n"));
            int feeds = (20000 - first) / 20;
            for (int i = 1; i <= feeds; i++) {
                due("feed " + i, sorter.feed(0x0a0a0a0a, 0x0a0a0a0a, 0x0a0a0a0a, 0x0a0a0a0a, 0x0a0a0a0a), first + 20 * i);
            }
            dueThrown("one more", IllegalStateException.class, () -> sorter.feed(0, 0, 0, 0, 0));
            due("lines of " + first, sorter.lines(), first + 20 * feeds);
        }
    }

    private static void lastLineMayLackIts10() {
        under("a LINE ends with the byte 10 (the last one may lack it)");
        for (String end : new String[] {"", "\n"}) {
            LineSorter sorter = withText("b\nc\na" + end);
            due("lines", sorter.lines(), 3);
            due("the last line's end", sorter.place(2, 0, true), 1);
            due("compared", sorter.compare(2, 0), -1);
            due("sorted", sorted(sorter), "2 0 1");
            due("its byte", sorter.byteAt(0, 0), (int) 'a');
            due("behind its byte", sorter.byteAt(0, 1), NONE);
            due("checked", sorter.check(), 2);
            due("merged", merged(sorter, 2), "2 0 1");
        }
        due("the only line lacks it", withText("a").lines(), 1);
        due("an empty line can't lack it", withText("a\n").lines(), 1);
        LineSorter empty = withText("b\n\n");
        due("an empty last line that has it", empty.lines(), 2);
        due("it comes first", sorted(empty), "1 0");
        empty.end(2);
        due("without its 10 it is none", empty.lines(), 1);
        LineSorter alike = withText("a\na");
        due("with 10 and without are alike", alike.compare(0, 1), 0);
        due("and go by their numbers", sorted(alike), "0 1");
    }

    /** Where the text ends, the line does, whether its 10 or what end() took off is behind it. */
    private static void lastLineWithAnythingBehindTheText() {
        String[] tails = {"a", " ", "\t ", "-", "-0", "0", "00", "7", "7.", "7.0", ".", "a:", ":", "a b", "a ", ": "};
        String[] takenOff = {" ", "  b", "0", "9", "-1", ".5", ":", ": ", "\n", "a"};
        for (int length : new int[] {20, 40, 640, 1280, 10240}) {
            for (String tail : tails) {
                under("the last one may lack it: '" + tail + "' at the end of " + length + " bytes");
                String text = "5\n" + times(length - tail.length() - 3, "x") + "\n" + tail;
                String want = toldOfLast(withText(text + "\n"));
                due("without its 10", toldOfLast(withText(text)), want);
                for (String behind : takenOff) {
                    LineSorter sorter = withText(text + behind);
                    sorter.end(length);
                    due("with '" + behind + "' taken off", toldOfLast(sorter), want);
                }
            }
        }
    }

    private static String toldOfLast(LineSorter sorter) {
        StringBuilder told = new StringBuilder();
        int[][] keys = {{1, 1, 1, 1}, {1, 1, 1, 0}, {1, 2, 0, 0}, {2, 1, 2, 1}, {2, 2, 2, 0}};
        for (int separator : new int[] {NONE, ':', ' '}) {
            sorter.separator(separator);
            for (int flags : new int[] {0, BLANKS_AT_BEGIN | BLANKS_AT_END, NUMBERS, WORDS}) {
                sorter.ways(flags, false, false);
                for (int[] key : keys) {
                    sorter.key(key[0], key[1], key[2], key[3], 0);
                    told.append(span(sorter, 2, 0)).append(' ').append(sorter.compare(2, 0)).append(sorter.check());
                    sorter.keyless();
                }
                told.append(' ').append(sorter.compare(2, 0)).append(' ').append(sorted(sorter)).append('\n');
            }
        }
        return told.toString();
    }

    private static void linesHaveNumbersFrom0() {
        under("lines have numbers 0, 1, ..");
        LineSorter sorter = withText("c\nb\na\n");
        due("the first one", sorter.compare(0, 1), 1);
        due("the last one", sorter.compare(2, 1), -1);
        due("by number", sorted(sorter), "2 1 0");
    }

    private static void bytesAreToldWithoutThe10() {
        under("their bytes are told without the 10");
        LineSorter sorter = withText("\t\nab\n\n");
        due("ends", sorter.place(0, 0, true) + " " + sorter.place(1, 0, true) + " " + sorter.place(2, 0, true), "1 2 0");
        due("9 stands before 10, and an empty line before both", sorted(sorter), "2 0 1");
        due("an empty line's first byte", sorter.byteAt(0, 0), NONE);
        due("no 10", sorter.byteAt(1, 1), NONE);
        due("nor the next line", sorter.byteAt(2, 2), NONE);
    }

    private static void blanksAre32And9() {
        under("BLANKS are 32 and 9");
        for (int value = 0; value < 256; value++) {
            if (value != 10) {
                oneByteAsABlank(value, value == 32 || value == 9);
            }
        }
    }

    private static void oneByteAsABlank(int value, boolean isBlank) {
        char it = (char) value;
        String told = "byte " + value + ": ";
        due(told + "parts fields", spanIn("a" + it + "b", NONE, 2, 1, 1, 0, 0), isBlank ? "1..1" : "3..3");
        due(told + "passed at the begin", spanIn(it + "a", NONE, 1, 1, 0, 0, BLANKS_AT_BEGIN), isBlank ? "1..2" : "0..2");
        due(told + "passed at the end", spanIn(it + "ab", NONE, 1, 1, 1, 1, BLANKS_AT_END), isBlank ? "0..2" : "0..1");
        boolean isDigit = value >= '0' && value <= '9';
        int five = isBlank || value == '0' ? 0 : isDigit ? 1 : -1;
        due(told + "passed before a number", compared(it + "5", "5", NUMBERS), five);
    }

    // ---- Terms: fields

    private static void termsFields() {
        eachPartBetweenSeparators();
        emptyLineHasOneFieldWithASeparator();
        blanksAndAllUpToTheNextBlank();
        emptyLineHasNoFieldWithoutASeparator();
        blanksAloneAtTheEndAreAField();
    }

    /** All fields that the one line has, and the place that is told for the first one that it has not. */
    private static void dueFields(String line, int separator, String... fields) {
        for (int f = 1; f <= fields.length; f++) {
            due("field " + f + " of '" + line + "'", spanIn(line, separator, f, 1, f, 0, 0), fields[f - 1]);
        }
        String end = line.length() + ".." + line.length();
        int behind = fields.length + 1;
        due("no field " + behind + " of '" + line + "'", spanIn(line, separator, behind, 1, behind, 0, 0), end);
        due("nor field 1000 of '" + line + "'", spanIn(line, separator, 1000, 1, 1000, 1, 0), end);
    }

    private static void eachPartBetweenSeparators() {
        under("with a SEPARATOR each part before, between and behind separators");
        dueFields("a", ':', "0..1");
        dueFields("a:b", ':', "0..1", "2..3");
        dueFields(":", ':', "0..0", "1..1");
        dueFields("::", ':', "0..0", "1..1", "2..2");
        dueFields(":a", ':', "0..0", "1..2");
        dueFields("a:", ':', "0..1", "2..2");
        dueFields("a::b", ':', "0..1", "2..2", "3..4");
        dueFields(" a : b ", ':', "0..3", "4..7");
        dueFields("  ", ' ', "0..0", "1..1", "2..2");
        dueFields("a \tb", '\t', "0..2", "3..4");
        dueFields("\u0000a\u0000", 0, "0..0", "1..2", "3..3");
        dueFields("\u00ffa\u00fe", 255, "0..0", "1..3");
    }

    private static void emptyLineHasOneFieldWithASeparator() {
        under("(an empty line has one, that is empty)");
        dueFields("", ':', "0..0");
        LineSorter sorter = withText("\n:\n");
        sorter.separator(':');
        sorter.key(1, 1, 1, 0, 0);
        due("the first field is as empty as that of a separator alone", sorter.compare(0, 1), 0);
    }

    private static void blanksAndAllUpToTheNextBlank() {
        under("without one, again and again any blanks and then all up to the next blank or the end");
        dueFields("a", NONE, "0..1");
        dueFields("a b", NONE, "0..1", "1..3");
        dueFields(" a", NONE, "0..2");
        dueFields(" \ta\t b:c", NONE, "0..3", "3..8");
        dueFields("a\u00a0b", NONE, "0..3");
    }

    private static void emptyLineHasNoFieldWithoutASeparator() {
        under("(an empty line has none");
        dueFields("", NONE);
        due("D behind a field that is not there", spanIn("", NONE, 1, 5, 1, 5, 0), "0..0");
    }

    private static void blanksAloneAtTheEndAreAField() {
        under("blanks alone at its end are one, too)");
        dueFields(" ", NONE, "0..1");
        dueFields("\t  ", NONE, "0..3");
        dueFields("a ", NONE, "0..1", "1..2");
        dueFields(" a \t", NONE, "0..2", "2..4");
        due("D counts from its begin", spanIn("a  ", NONE, 1, 1, 2, 1, 0), "0..2");
    }

    // ---- Terms: flags

    private static void termsFlags() {
        flag1PassesBlanksWhereAKeyBegins();
        flag64PassesBlanksWhereAKeyEnds();
        flags2And8LeaveBytesOut();
        otherFlagsLeaveNoByteOut();
        flag4CountsSmallAsCapital();
        flag32IsTheOtherWayRound();
        allsFlagsAre0AtFirst();
        aKeyWithFlags0HasAlls();
    }

    private static void flag1PassesBlanksWhereAKeyBegins() {
        under("1 blanks in front are passed where a key begins");
        due("no blanks", spanIn("ab", NONE, 1, 1, 1, 1, BLANKS_AT_BEGIN), "0..1");
        due("one", spanIn(" ab", NONE, 1, 1, 1, 1, BLANKS_AT_BEGIN), "1..1");
        due("blanks alone", spanIn("\t ", NONE, 1, 1, 1, 1, BLANKS_AT_BEGIN), "2..1");
        due("not without it", spanIn(" ab", NONE, 1, 1, 1, 1, 127 - BLANKS_AT_BEGIN), "0..2");
        due("an empty line", spanIn("", NONE, 1, 1, 1, 1, BLANKS_AT_BEGIN), "0..0");
    }

    private static void flag64PassesBlanksWhereAKeyEnds() {
        under("64 blanks in front are passed where a key ends");
        due("no blanks", spanIn("ab", NONE, 1, 1, 1, 1, BLANKS_AT_END), "0..1");
        due("one", spanIn(" ab", NONE, 1, 1, 1, 1, BLANKS_AT_END), "0..2");
        due("blanks alone", spanIn("\t ", NONE, 1, 1, 1, 1, BLANKS_AT_END), "0..2");
        due("not without it", spanIn(" ab", NONE, 1, 1, 1, 1, 127 - BLANKS_AT_END), "1..1");
        due("not where D is 0", spanIn("  ", ':', 1, 1, 1, 0, BLANKS_AT_END), "0..2");
    }

    /** One byte a line, with an empty line at number 10, where the byte 10 ends it. */
    private static LineSorter everyByte() {
        StringBuilder text = new StringBuilder();
        for (int value = 0; value < 256; value++) {
            text.append(value == 10 ? "" : String.valueOf((char) value)).append('\n');
        }
        return withText(text.toString());
    }

    private static boolean isLetterOrDigit(int value) {
        return value >= '0' && value <= '9' || value >= 'A' && value <= 'Z' || value >= 'a' && value <= 'z';
    }

    private static void flags2And8LeaveBytesOut() {
        LineSorter sorter = everyByte();
        for (int value = 0; value < 256; value++) {
            boolean isWord = isLetterOrDigit(value) || value == 32 || value == 9;
            boolean isPrinted = value >= 32 && value <= 126;
            under("2 only blanks, letters and digits count");
            dueCounted(sorter, value, WORDS, isWord);
            under("8 only bytes 32 to 126 count");
            dueCounted(sorter, value, PRINTED, isPrinted);
            under("byte by byte of those that count (2, 8; both if both)");
            dueCounted(sorter, value, WORDS | PRINTED, isWord && isPrinted);
            dueCounted(sorter, value, 0, value != 10);
        }
        due("bytes that do not count part none that do", compared("a\u0001\u0002b", "ab\u0003", PRINTED), 0);
        due("and none of them are nothing", compared("--", "", WORDS), 0);
    }

    private static void otherFlagsLeaveNoByteOut() {
        under("1, 4, 32, 64: every byte counts");
        for (int flags : new int[] {BLANKS_AT_BEGIN, CAPITALS, BLANKS_AT_END, BLANKS_AT_BEGIN | CAPITALS | BLANKS_AT_END}) {
            for (int value = 0; value < 256; value++) {
                if (value != 10) {
                    due("byte " + value + " with flags " + flags, compared("a" + (char) value, "a", flags), 1);
                    due("byte " + value + " with 32 and " + flags, compared("a" + (char) value, "a", flags | REVERSED), -1);
                }
            }
        }
    }

    private static void dueCounted(LineSorter sorter, int value, int flags, boolean counts) {
        sorter.ways(flags, false, false);
        due("byte " + value + " with flags " + flags, sorter.compare(value, 10), counts ? 1 : 0);
    }

    private static void flag4CountsSmallAsCapital() {
        under("4 a to z count as A to Z");
        LineSorter sorter = everyByte();
        sorter.ways(CAPITALS, false, false);
        for (int value = 0; value < 256; value++) {
            boolean isSmall = value >= 'a' && value <= 'z';
            int other = value < 128 ? value ^ 32 : value;
            boolean isLetter = isSmall || value >= 'A' && value <= 'Z';
            if (value != 10 && other != 10) {
                due("byte " + value + " and " + other, sorter.compare(value, other),
                        isLetter ? 0 : Integer.compare(value, other));
            }
        }
        due("as capitals: z stands before [", compared("z", "[", CAPITALS), -1);
        due("the byte before a", compared("`", "a", CAPITALS), 1);
        due("the byte behind z", compared("{", "z", CAPITALS), 1);
        due("not without it", compared("a", "A", 127 - CAPITALS - NUMBERS - REVERSED), 1);
    }

    private static void flag32IsTheOtherWayRound() {
        under("By flag 32 it is the other way round");
        due("equal ones stay so", compared("a", "a", REVERSED), 0);
        due("0 and 255", compared("\u0000", "\u00ff", REVERSED), 1);
        due("the empty one", compared("", "a", REVERSED), 1);
        due("numbers", compared("-1", "0", REVERSED | NUMBERS), 1);
        due("equal numbers", compared("-0", "0", REVERSED | NUMBERS), 0);
    }

    private static void allsFlagsAre0AtFirst() {
        under("There are ALL'S flags (0 at first)");
        LineSorter sorter = withText(" 10\n9\nB\na\n");
        due("no flag is there", sorter.place(0, 0, false) + " " + sorter.compare(0, 1) + " " + sorter.compare(2, 3), "0 -1 -1");
    }

    private static void aKeyWithFlags0HasAlls() {
        under("a key with flags 0 has all's");
        LineSorter sorter = withText(" 10\n9\n");
        sorter.key(1, 1, 0, 0, 0);
        sorter.ways(NUMBERS, false, false);
        due("set behind the key", sorter.compare(0, 1), 1);
        sorter.ways(127, false, false);
        due("all of them", sorter.compare(0, 1) + " " + sorter.place(0, 0, false), "-1 1");
        sorter.ways(0, false, false);
        due("none again", sorter.compare(0, 1), -1);
        sorter.keyless();
        sorter.ways(NUMBERS, false, false);
        sorter.key(1, 1, 0, 0, BLANKS_AT_END);
        due("one flag of its own, and it has none of all's", sorter.compare(0, 1), -1);
    }

    // ---- Terms: keys

    private static void termsKeys() {
        atMost6Keys();
        withoutAnyThereIsOne();
        beginsWhereFieldFDoes();
        endsAtTheLinesEnd();
        endsWhereFieldEDoes();
        endsDFurtherOn();
        blanksOfAFieldEndWhereItDoes();
        noneIfItEndsBeforeItBegins();
    }

    private static void atMost6Keys() {
        under("A KEY ... at most 6");
        LineSorter sorter = withText("a b c d e f1\na b c d e f2\n");
        for (int k = 1; k <= 6; k++) {
            due("before key " + k, sorter.compare(0, 1), k == 1 ? -1 : 0);
            due("key " + k, sorter.key(k, 1, k, 0, REVERSED), k);
        }
        due("the sixth one counts", sorter.compare(0, 1), 1);
        dueUnsupported("key 7", () -> sorter.key(1, 1, 0, 0, 0));
        due("six behind it", sorter.about(5), 6);
        due("and as before", sorter.compare(0, 1) + " " + span(sorter, 0, 0) + " " + span(sorter, 0, 5), "1 0..1 9..12");
        dueOutOfBounds("no key 6 to place", () -> sorter.place(0, 6, false));
    }

    private static void withoutAnyThereIsOne() {
        under("without any there is one: F and C 1, E 0, all's flags");
        LineSorter sorter = withText(" a b \n");
        due("the whole line", span(sorter, 0, 0), "0..5");
        sorter.ways(BLANKS_AT_BEGIN, false, false);
        due("all's flags", span(sorter, 0, 0), "1..5");
        sorter.separator('b');
        due("no separator ends it", span(sorter, 0, 0), "1..5");
        dueOutOfBounds("no second one", () -> sorter.place(0, 1, false));
        due("it is not counted", sorter.about(5), 0);
        sorter.key(2, 1, 2, 0, CAPITALS);
        due("a key takes its place", span(sorter, 0, 0), "4..5");
        sorter.keyless();
        due("and gives it back", span(sorter, 0, 0), "1..5");
    }

    private static void beginsWhereFieldFDoes() {
        under("It BEGINS where field F does, C - 1 further on; at the line's end if there is no such field, or no such place");
        String line = "ab cd";
        due("field 1", spanIn(line, NONE, 1, 1, 0, 0, 0), "0..5");
        due("the last field", spanIn(line, NONE, 2, 1, 0, 0, 0), "2..5");
        due("no such field", spanIn(line, NONE, 3, 1, 0, 0, 0), "5..5");
        due("no such field, and C", spanIn(line, NONE, 3, 1000, 0, 0, 0), "5..5");
        due("the last byte", spanIn(line, NONE, 1, 5, 0, 0, 0), "4..5");
        due("the line's end", spanIn(line, NONE, 1, 6, 0, 0, 0), "5..5");
        due("beyond it", spanIn(line, NONE, 1, 7, 0, 0, 0), "5..5");
        due("far beyond it", spanIn(line, NONE, 2, 1000, 0, 0, 0), "5..5");
        due("C behind passed blanks", spanIn("  ab", NONE, 1, 2, 0, 0, BLANKS_AT_BEGIN), "3..4");
        due("C behind passed blanks, at the end", spanIn("  ab", NONE, 1, 3, 0, 0, BLANKS_AT_BEGIN), "4..4");
        due("C 1000 of 1000 bytes", spanIn(times(1000, "x"), NONE, 1, 1000, 0, 0, 0), "999..1000");
        due("C 1000 of 999 bytes", spanIn(times(999, "x"), NONE, 1, 1000, 0, 0, 0), "999..999");
        due("C 1000 of 998 bytes", spanIn(times(998, "x"), NONE, 1, 1000, 0, 0, 0), "998..998");
        due("field 1000 of 1000", spanIn(times(999, "x:") + "y", ':', 1000, 1, 0, 0, 0), "1998..1999");
        due("field 1000 of 999", spanIn(times(998, "x:") + "y", ':', 1000, 1, 0, 0, 0), "1997..1997");
        due("field 1000 of 1000 by blanks", spanIn(times(1000, " x"), NONE, 1000, 1, 0, 0, 0), "1998..2000");
        due("field 1000 of 999 by blanks", spanIn(times(999, " x"), NONE, 1000, 1, 0, 0, 0), "1998..1998");
        LineSorter second = withText("abc\nab cd\n\nz");
        second.key(2, 1, 0, 0, 0);
        due("counted from each line's own first byte",
                span(second, 0, 0) + " " + span(second, 1, 0) + " " + span(second, 2, 0) + " " + span(second, 3, 0),
                "3..3 2..5 0..0 1..1");
    }

    private static void endsAtTheLinesEnd() {
        under("It ENDS at the line's end if E is 0 or there is no field E");
        String line = "ab cd";
        due("E 0", spanIn(line, NONE, 1, 1, 0, 0, 0), "0..5");
        due("E 0, whatever D is", spanIn(line, NONE, 1, 1, 0, 1, 0), "0..5");
        due("E 0, by flag 64", spanIn(line, NONE, 1, 1, 0, 1, BLANKS_AT_END), "0..5");
        due("the last field", spanIn(line, NONE, 1, 1, 2, 1, 0), "0..3");
        due("no field E", spanIn(line, NONE, 1, 1, 3, 1, 0), "0..5");
        due("no field E, D 0", spanIn(line, NONE, 1, 1, 3, 0, 0), "0..5");
        due("no field 1000 by separators", spanIn("a:b", ':', 1, 1, 1000, 0, 0), "0..3");
        due("field 1000 of 1000", spanIn(times(1000, "x:"), ':', 1, 1, 1000, 0, 0), "0..1999");
        due("field 1000 of 999", spanIn(times(998, "x:") + "yz", ':', 1, 1, 1000, 1, 0), "0..1998");
    }

    private static void endsWhereFieldEDoes() {
        under("where field E ends if D is 0");
        due("the first of two", spanIn("ab cd", NONE, 1, 1, 1, 0, 0), "0..2");
        due("the last of two", spanIn("ab cd", NONE, 1, 1, 2, 0, 0), "0..5");
        due("an empty one", spanIn("a::b", ':', 1, 1, 2, 0, 0), "0..2");
        due("an empty one at the end", spanIn("a:", ':', 1, 1, 2, 0, 0), "0..2");
        due("an empty one in front", spanIn(":a", ':', 1, 1, 1, 0, 0), "0..0");
    }

    private static void endsDFurtherOn() {
        under("otherwise where field E begins (behind its blanks by flag 64), D further on, at the line's end at most");
        due("D 1", spanIn("ab cd", NONE, 1, 1, 2, 1, 0), "0..3");
        due("up to the line's end", spanIn("ab cd", NONE, 1, 1, 2, 3, 0), "0..5");
        due("beyond it", spanIn("ab cd", NONE, 1, 1, 2, 4, 0), "0..5");
        due("far beyond it", spanIn("ab cd", NONE, 1, 1, 1, 1000, 0), "0..5");
        due("beyond its field", spanIn("ab:cd", ':', 1, 1, 1, 4, 0), "0..4");
        due("behind blanks", spanIn("ab  cd", NONE, 1, 1, 2, 1, BLANKS_AT_END), "0..5");
        due("behind blanks up to the line's end", spanIn("ab  cd", NONE, 1, 1, 2, 2, BLANKS_AT_END), "0..6");
        due("behind blanks beyond it", spanIn("ab  cd", NONE, 1, 1, 2, 3, BLANKS_AT_END), "0..6");
        due("D 1000 of 1001 bytes", spanIn(times(1001, "x"), NONE, 1, 1, 1, 1000, 0), "0..1000");
        due("D 1000 of 1000 bytes", spanIn(times(1000, "x"), NONE, 1, 1, 1, 1000, 0), "0..1000");
        due("D 1000 of 999 bytes", spanIn(times(999, "x"), NONE, 1, 1, 1, 1000, 0), "0..999");
    }

    private static void blanksOfAFieldEndWhereItDoes() {
        under("(Blanks of a field end where it does with a separator, where the line does without one.)");
        int both = BLANKS_AT_BEGIN | BLANKS_AT_END;
        due("with one, blanks alone", spanIn("a:  : b", ':', 2, 1, 2, 1, both), "4..5");
        due("with one, an empty field", spanIn("a:: b", ':', 2, 1, 2, 1, both), "2..3");
        due("with one, the last field", spanIn("a:  ", ':', 2, 1, 2, 1, both), "4..4");
        due("with one, blanks behind the separator stay", spanIn(":  b", ':', 1, 1, 1, 1, both), "0..1");
        due("a blank as separator is no blank of its field", spanIn("  b", ' ', 1, 1, 1, 1, both), "0..1");
        due("the other blank is", spanIn("\t b", ' ', 1, 1, 1, 1, both), "1..2");
        due("without one, blanks alone", spanIn("a \t ", NONE, 2, 1, 2, 1, both), "4..4");
        due("without one, up to a byte", spanIn("a \t b", NONE, 2, 1, 2, 1, both), "4..5");
        LineSorter next = withText(" \n \nb\n");
        next.ways(both, false, false);
        due("never in the next line", span(next, 0, 0), "1..1");
    }

    private static void noneIfItEndsBeforeItBegins() {
        under("It has the bytes between, none if it ends before it begins");
        LineSorter sorter = withText("abz\nbaa\n\n");
        sorter.key(1, 2, 1, 2, 0);
        due("one byte", sorter.compare(0, 1) + " " + sorter.compare(0, 2), "1 1");
        sorter.keyless();
        sorter.key(1, 2, 1, 1, 0);
        due("none where it ends as it begins", sorter.compare(0, 1) + " " + sorter.compare(0, 2), "0 0");
        sorter.keyless();
        sorter.key(1, 3, 1, 1, 0);
        due("none where it ends before", sorter.compare(0, 1) + " " + sorter.compare(0, 2), "0 0");
        due("though both places are told", span(sorter, 0, 0), "2..1");
        sorter.keyless();
        sorter.key(1, 3, 1, 1, NUMBERS);
        due("none as a number", sorter.compare(0, 1), 0);
        LineSorter whole = withText("5 7\n6 7\n0 0\n");
        whole.key(2, 1, 1, 1, NUMBERS | REVERSED);
        due("nothing in front or behind is read", whole.compare(0, 1) + " " + whole.compare(0, 2), "0 0");
    }

    // ---- Terms: two keys compared

    private static void termsCompared() {
        noDigitsAre0AndSoIsMinus0();
        digitsOrNone();
        whatIsBehindDoesNotCount();
        asNumbers0To255();
        theShorterOneFirst();
    }

    private static void noDigitsAre0AndSoIsMinus0() {
        under("no digits are 0, and so is -0");
        String[] zeros = {
            "0", "-0", "", " ", "\t", "-", ".", "-.", "00", "-00", "0.", "-0.", ".0", "-.0", "0.00", "-00.00", "x", "-x", "+1",
            "- 1", "--1", ". 1", "..1", "-+1", "x1", "\u00005", "\u00a05", " -", "0x9", "-0x9", "0 9", ".x9", "\r7",
        };
        for (String zero : zeros) {
            due("'" + zero + "' is 0", compared(zero, "0", NUMBERS), 0);
            due("'" + zero + "' is below 0.1", compared(zero, ".1", NUMBERS), -1);
            due("'" + zero + "' is above -0.1", compared(zero, "-.1", NUMBERS), 1);
        }
    }

    private static void digitsOrNone() {
        under("then - or nothing, digits or none, and a point and digits or none");
        due("0 and 1", compared("0", "1", NUMBERS), -1);
        due("9 and 10", compared("9", "10", NUMBERS), -1);
        due("-9 and -10", compared("-9", "-10", NUMBERS), 1);
        due("-1 and 1", compared("-1", "1", NUMBERS), -1);
        due("a point without digits", compared("7.", "7", NUMBERS), 0);
        due("a point without digits in front", compared(".7", "0.7", NUMBERS), 0);
        due("a minus and a point", compared("-.7", "-0.70", NUMBERS), 0);
        due("zeros in front", compared("0000000000000000000000001", "1", NUMBERS), 0);
        due("zeros behind", compared("1.0000000000000000000000000", "1", NUMBERS), 0);
        due("a byte before 0", compared("1/", "1", NUMBERS), 0);
        due("a byte behind 9", compared("1:", "1", NUMBERS), 0);
        due("high bytes are no digits", compared("1\u00b2", "1", NUMBERS), 0);
        due("nine parts of a hundred", compared("0.09", "0.1", NUMBERS), -1);
        due("blanks before the minus", compared(" \t-1", "-1", NUMBERS), 0);
        String many = times(400, "9");
        due("400 digits and one more", compared(many, "1" + times(400, "0"), NUMBERS), -1);
        due("400 digits that differ in the last", compared(many, times(399, "9") + "8", NUMBERS), 1);
        due("400 digits behind the point", compared("." + many, "1", NUMBERS), -1);
        due("the last one of them", compared("." + many, "." + times(399, "9") + "8", NUMBERS), 1);
        due("below every int and long", compared("-2147483649", "-2147483648", NUMBERS), -1);
        due("2 to the 64th", compared("18446744073709551616", "18446744073709551615", NUMBERS), 1);
    }

    private static void whatIsBehindDoesNotCount() {
        under("what is behind does not count");
        due("letters", compared("1a", "1b", NUMBERS), 0);
        due("a second point", compared("1.5.9", "1.5.1", NUMBERS), 0);
        due("a second minus", compared("1-9", "1-1", NUMBERS), 0);
        due("a blank", compared("1 9", "1 1", NUMBERS), 0);
        due("an exponent", compared("1e9", "1e1", NUMBERS), 0);
        due("a comma", compared("1,9", "1,1", NUMBERS), 0);
        LineSorter sorter = withText("123\n124\n");
        sorter.key(1, 1, 1, 2, NUMBERS);
        due("what is behind the key", sorter.compare(0, 1), 0);
        LineSorter point = withText("1.5\n1.6\n");
        point.key(1, 1, 1, 2, NUMBERS);
        due("a point at the key's end", point.compare(0, 1), 0);
        LineSorter minus = withText("-5\n-6\n");
        minus.key(1, 1, 1, 1, NUMBERS);
        due("a minus at the key's end", minus.compare(0, 1), 0);
        LineSorter blanks = withText("  5\n  6\n");
        blanks.key(1, 1, 1, 2, NUMBERS);
        due("blanks up to the key's end", blanks.compare(0, 1), 0);
        LineSorter lines = withText("\n9\n-\n8\n1.\n7\n1\n");
        lines.ways(NUMBERS, false, false);
        due("never the next line", lines.compare(0, 2) + " " + lines.compare(4, 6), "0 0");
    }

    private static void asNumbers0To255() {
        under("byte by byte, as numbers 0 to 255");
        LineSorter sorter = everyByte();
        for (int value = 0; value < 255; value++) {
            if (value != 10 && value != 9) {
                due("byte " + value, sorter.compare(value, value + 1), -1);
            }
        }
        due("9 and 11", sorter.compare(9, 11), -1);
        due("0 and 255", sorter.compare(0, 255), -1);
        sorter.sort();
        due("the empty one first", sorter.result(0) + " " + sorter.result(1) + " " + sorter.result(255), "10 0 255");
    }

    private static void theShorterOneFirst() {
        under("the shorter one first");
        due("nothing and nothing", compared("", "", 0), 0);
        due("nothing and the lowest byte", compared("", "\u0000", 0), -1);
        due("one byte less", compared("ab", "ab\u0000", 0), -1);
        due("but only if all else is equal", compared("b", "aa", 0), 1);
        due("of those that count", compared("a---", "ab", WORDS), -1);
        due("the longer one has none that count", compared("ab---", "ab", WORDS), 0);
    }

    // ---- Terms: the order

    private static void termsOrder() {
        under("Lines are ALIKE if all keys are equal");
        LineSorter sorter = withText("a 1 x\na 1 y\na 2 x\n");
        sorter.key(1, 1, 1, 0, 0);
        due("one key", sorter.compare(0, 1) + " " + sorter.compare(0, 2), "0 0");
        sorter.key(2, 1, 2, 0, 0);
        due("two keys", sorter.compare(0, 1) + " " + sorter.compare(0, 2), "0 -1");
        sorter.key(3, 1, 3, 0, 0);
        due("three keys", sorter.compare(0, 1) + " " + sorter.compare(0, 2), "-1 -1");
        unlessItIsStableOrOnce();
        theOtherWayRoundIfAllsFlagsHave32();
        thenByTheirNumbers();
    }

    private static void unlessItIsStableOrOnce() {
        under("of lines that are alike, unless it is STABLE or ONCE, by all their bytes, as keys without flags");
        LineSorter sorter = withText("x b\nx B\nx a-\n");
        sorter.key(1, 1, 1, 0, CAPITALS);
        due("neither", sorted(sorter), "1 2 0");
        due("neither, checked", sorter.check(), 1);
        sorter.ways(0, true, false);
        due("stable", sorted(sorter), "0 1 2");
        due("stable, checked", sorter.check(), NONE);
        sorter.ways(0, false, true);
        due("once", sorted(sorter), "0");
        due("once, merged", merged(sorter, 1), "0");
        due("once, checked", sorter.check(), 1);
        sorter.ways(0, true, true);
        due("both", sorted(sorter), "0");
        sorter.ways(127 - REVERSED, false, false);
        due("without flags, whatever all's are", sorted(sorter), "1 2 0");
        LineSorter edge = withText("\u00ff\n\u0000\n\n");
        edge.key(2, 1, 2, 0, 0);
        due("bytes 0 to 255, the shorter one first", sorted(edge), "2 1 0");
    }

    private static void theOtherWayRoundIfAllsFlagsHave32() {
        under("(the other way round if all's flags have 32)");
        LineSorter sorter = withText("x b\nx\nx c\n");
        sorter.key(1, 1, 1, 0, CAPITALS);
        sorter.ways(REVERSED, false, false);
        due("32 alone", sorted(sorter), "2 0 1");
        due("checked", sorter.check(), 2);
        sorter.ways(127, false, false);
        due("32 and all others", sorted(sorter), "2 0 1");
        sorter.ways(REVERSED, true, false);
        due("not if it is stable", sorted(sorter), "0 1 2");
        sorter.ways(0, false, false);
        sorter.keyless();
        sorter.key(1, 1, 1, 0, REVERSED);
        due("a key's 32 is not all's", sorted(sorter), "1 0 2");
    }

    private static void thenByTheirNumbers() {
        under("then by their numbers");
        LineSorter sorter = withText("a\na\na\n");
        due("equal lines", sorted(sorter), "0 1 2");
        sorter.ways(REVERSED, false, false);
        due("not the other way round", sorted(sorter), "0 1 2");
        due("merged in pieces of one", merged(sorter, 1), "0 1 2");
        sorter.ways(REVERSED, true, false);
        due("stable", sorted(sorter), "0 1 2");
    }

    // ---- Terms: sorting

    private static void termsSorting() {
        memoryIs2To500AtFirst100();
        runsAre2To16AtFirst4();
        theFirstMLinesComeIntoMemory();
        thoseNotBeforeTheLatest();
        untilMemoryIsEmpty();
        asManyAsThereAre();
        onlyTheFirstOneStays();
    }

    private static String runsOfDescending(int count, int m) {
        LineSorter sorter = withText(descending(count));
        sorter.memory(m, 16);
        sorter.sort();
        return runsOf(sorter);
    }

    private static void memoryIs2To500AtFirst100() {
        under("a MEMORY of m lines (2 .. 500, at first 100)");
        due("2 lines of 2", runsOfDescending(2, 2), "2");
        due("3 lines of 2", runsOfDescending(3, 2), "2 1");
        due("3 lines of 3", runsOfDescending(3, 3), "3");
        due("499 lines of 499", runsOfDescending(499, 499), "499");
        due("500 lines of 499", runsOfDescending(500, 499), "499 1");
        due("500 lines of 500", runsOfDescending(500, 500), "500");
        due("501 lines of 500", runsOfDescending(501, 500), "500 1");
        due("1000 lines of 500", runsOfDescending(1000, 500), "500 500");
        due("1000 lines of 2", runsOfDescending(1000, 2), times(499, "2 ") + "2");
        LineSorter first = withText(descending(100));
        first.sort();
        due("100 lines at first", runsOf(first), "100");
        LineSorter more = withText(descending(101));
        more.sort();
        due("101 lines at first", runsOf(more), "100 1");
        LineSorter sorter = new LineSorter();
        dueIllegal("m 1", () -> sorter.memory(1, 4));
        dueIllegal("m 501", () -> sorter.memory(501, 4));
        dueIllegal("m 0", () -> sorter.memory(0, 4));
        dueIllegal("m -2", () -> sorter.memory(-2, 4));
        for (int far : FAR_OUT) {
            dueIllegal("m " + far, () -> sorter.memory(far, 4));
        }
    }

    /** Merges and lines moved of so many runs of two lines each. */
    private static String mergesOf(int runs, int w) {
        LineSorter sorter = withText(descending(2 * runs));
        sorter.memory(2, w);
        sorter.sort();
        due("runs of " + runs, sorter.about(0), runs);
        due("sorted all the same", resultOf(sorter), numbers(2 * runs - 1, 0));
        return sorter.about(1) + " " + sorter.about(2);
    }

    private static void runsAre2To16AtFirst4() {
        under("that merges w runs (2 .. 16, at first 4)");
        due("2 runs by 2", mergesOf(2, 2), "1 4");
        due("3 runs by 2", mergesOf(3, 2), "2 10");
        due("15 runs by 15", mergesOf(15, 15), "1 30");
        due("16 runs by 15", mergesOf(16, 15), "2 62");
        due("16 runs by 16", mergesOf(16, 16), "1 32");
        due("17 runs by 16", mergesOf(17, 16), "2 66");
        LineSorter first = withText(descending(400));
        first.sort();
        due("4 runs at first", sortOf(first), "4 1 400 0");
        LineSorter more = withText(descending(401));
        more.sort();
        due("5 runs at first", sortOf(more), "5 2 801 0");
        LineSorter sorter = new LineSorter();
        dueIllegal("w 1", () -> sorter.memory(100, 1));
        dueIllegal("w 17", () -> sorter.memory(100, 17));
        dueIllegal("w 0", () -> sorter.memory(100, 0));
        dueIllegal("w -2", () -> sorter.memory(100, -2));
        dueIllegal("both", () -> sorter.memory(1, 17));
        for (int far : FAR_OUT) {
            dueIllegal("w " + far, () -> sorter.memory(100, far));
        }
        dueAllowed("both lowest", () -> sorter.memory(2, 2));
        dueAllowed("both highest", () -> sorter.memory(500, 16));
    }

    private static String runsWithMemory(String text, int m) {
        LineSorter sorter = withText(text);
        sorter.memory(m, 2);
        sorter.sort();
        return runsOf(sorter);
    }

    private static void theFirstMLinesComeIntoMemory() {
        under("the first m lines come into memory");
        due("as many lines as memory has", runsWithMemory("c\nb\na\n", 3), "3");
        due("one line more, that comes in when a has gone", runsWithMemory("d\nc\na\nb\n", 3), "4");
        due("one line more, that is before what has gone", runsWithMemory("d\nc\nb\na\n", 3), "3 1");
        due("less lines than memory has", runsWithMemory("b\na\n", 3), "2");
    }

    private static void thoseNotBeforeTheLatest() {
        under("those in memory that are not before the line that went out latest in this run");
        due("an equal one with a higher number", runsWithMemory("a\nb\na\n", 2), "3");
        due("one just before", runsWithMemory("b\nc\na\n", 2), "2 1");
        due("one just behind", runsWithMemory("b\nd\nc\n", 2), "3");
        due("one that waits does not hinder the others", runsWithMemory("b\nc\na\nd\ne\nf\n", 2), "5 1");
        due("the latest of this run alone", runsWithMemory("c\nd\na\nb\na\n", 2), "2 3");
        due("lines in order are one run", runsWithMemory(times(300, "a\n") + times(300, "b\n"), 2), "600");
    }

    private static void untilMemoryIsEmpty() {
        under("the run ends, and the next one begins; until memory is empty");
        LineSorter none = new LineSorter();
        none.sort();
        due("no lines, no runs", sortOf(none) + " " + none.run(0), "0 0 0 0 -1");
        due("one line", runsWithMemory("a", 2), "1");
        due("two lines", runsWithMemory("b\na", 2), "2");
        due("the last run has one line", runsWithMemory("e\nd\nc\nb\na\n", 2), "2 2 1");
        due("the last run has two", runsWithMemory("f\ne\nd\nc\nb\na\n", 2), "2 2 2");
    }

    private static void asManyAsThereAre() {
        under("while there are more than one, the first w runs (as many as there are) are merged to one, which comes behind the others");
        LineSorter one = withText("a\nb\n");
        one.sort();
        due("one run is not merged", sortOf(one), "1 0 0 0");
        due("less than w", mergesOf(3, 16), "1 6");
        due("less than w at last", mergesOf(5, 4), "2 18");
        due("behind the others: 2 2 2 2 2 by 2", mergesOf(5, 2), "4 " + (4 + 4 + 6 + 10));
        due("behind the others: 2 2 2 2 by 3", mergesOf(4, 3), "2 14");
    }

    private static void onlyTheFirstOneStays() {
        under("ONCE: of lines that are alike only the first one stays in the end");
        LineSorter sorter = withText(times(1000, "a\n"));
        sorter.ways(0, false, true);
        due("of 1000", sorter.sort(), 1);
        due("the first", resultOf(sorter), "0");
        due("the others went", sorter.about(3), 999);
        due("in the end: runs had them", runsOf(sorter), "1000");
        LineSorter apart = withText("b 2\nb 1\na 9\nb 0\na 1\n");
        apart.key(1, 1, 1, 0, 0);
        apart.ways(0, false, true);
        apart.memory(2, 2);
        due("out of more runs", sorted(apart), "2 0");
        due("and merges move them all", sortOf(apart), "2 1 5 3");
        LineSorter none = withText("a\nb\n");
        none.ways(0, false, true);
        due("none are alike", sorted(none), "0 1");
        due("none went", none.about(3), 0);
    }

    // ---- Terms: the result

    private static void termsResult() {
        under("THE RESULT ... is empty at first, and behind each feed() and end() (that does not throw)");
        LineSorter sorter = withText("b\na\n");
        dueEmptyResult("at first", new LineSorter());
        sorter.sort();
        sorter.feed(0, 0, 0, 0, 0);
        dueEmptyResult("behind feed", sorter);
        sorter.merge(1);
        sorter.end(4);
        dueEmptyResult("behind end", sorter);
        sorter.sort();
        sorter.end(4);
        dueEmptyResult("behind an end that takes nothing off", sorter);
        sorter.sort();
        dueIllegal("end too far", () -> sorter.end(5));
        dueIllegal("end below 0", () -> sorter.end(-1));
        due("stays behind an end that throws", resultOf(sorter), "1 0");
        LineSorter full = withText(times(19999, "x") + "\n");
        full.sort();
        dueThrown("feed too far", IllegalStateException.class, () -> full.feed(0, 0, 0, 0, 0));
        due("stays behind a feed that throws", resultOf(full), "0");
        otherCallsLeaveTheResult();
    }

    private static void dueEmptyResult(String when, LineSorter sorter) {
        due("the result " + when, sorter.about(6) + " " + sorter.result(0) + " " + sorter.byteAt(0, 0), "0 -1 -1");
    }

    private static void otherCallsLeaveTheResult() {
        under("other calls but sort() and merge() leave it");
        LineSorter sorter = withText("b\na\nc\n");
        sorter.sort();
        Call[] others = {
            () -> sorter.ways(REVERSED, true, true), () -> sorter.separator('b'), () -> sorter.key(1, 1, 0, 0, 0),
            sorter::keyless, () -> sorter.memory(2, 2), sorter::lines, () -> sorter.place(0, 0, true),
            () -> sorter.compare(0, 1), sorter::check, () -> sorter.result(0), () -> sorter.byteAt(0, 0),
            () -> sorter.run(0), () -> sorter.about(0),
        };
        for (int i = 0; i < others.length; i++) {
            others[i].make();
            due("behind call " + i, resultOf(sorter), "1 0 2");
        }
        due("merge makes another", merged(sorter, 3), "0 1 2");
        due("and sort another", sorted(sorter), "2 0 1");
    }
}
