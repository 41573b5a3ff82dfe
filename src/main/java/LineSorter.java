import java.util.Arrays;

/** Sorts, checks and merges the lines of a text by keys; the document's promises say how. */
public final class LineSorter {
    public static final int NONE = -1;

    private static final int MOST_BYTES = 20000;
    private static final int BYTES_OF_A_FEED = 20;
    private static final int MOST_LINES = 1000;
    private static final int MOST_KEYS = 6;
    private static final int HIGHEST_NUMBER_IN_A_KEY = 1000;

    private static final int PASS_BLANKS_AT_BEGIN = 1;
    private static final int ONLY_BLANKS_LETTERS_DIGITS = 2;
    private static final int SMALL_AS_CAPITAL = 4;
    private static final int ONLY_32_TO_126 = 8;
    private static final int AS_NUMBERS = 16;
    private static final int REVERSED = 32;
    private static final int PASS_BLANKS_AT_END = 64;
    private static final int ALL_FLAGS = 127;

    private final Text text;
    private final Places places;
    private final Order order;
    private final Ranking ranking;
    private final Heap heap;
    private final Runs runs;
    private final int[] resultLines;
    private int resultCount;
    private int linesInMemory;
    private int runsAtATime;

    public LineSorter() {
        text = new Text();
        places = new Places(text);
        order = new Order(text, places);
        ranking = new Ranking(order);
        heap = new Heap();
        runs = new Runs(ranking, heap);
        resultLines = new int[MOST_LINES];
        resultCount = 0;
        linesInMemory = 100;
        runsAtATime = 4;
    }

    public int feed(int a, int b, int c, int d, int e) throws IllegalStateException {
        if (text.length + BYTES_OF_A_FEED > MOST_BYTES) {
            throw new IllegalStateException("the text would have more than 20000 bytes");
        }
        text.append(a);
        text.append(b);
        text.append(c);
        text.append(d);
        text.append(e);
        resultCount = 0;
        return text.length;
    }

    public void end(int n) throws IllegalArgumentException {
        if (!isWithin(n, 0, text.length)) {
            throw new IllegalArgumentException("the text has not so many bytes");
        }
        text.keepFirst(n);
        resultCount = 0;
    }

    public void ways(int flags, boolean stable, boolean once) throws IllegalArgumentException {
        if (!isWithin(flags, 0, ALL_FLAGS)) {
            throw new IllegalArgumentException("flags are 0 to 127");
        }
        order.allsFlags = flags;
        order.isStable = stable;
        order.isOnce = once;
    }

    public void separator(int c) throws IllegalArgumentException {
        if (!isWithin(c, NONE, 255) || c == '\n') {
            throw new IllegalArgumentException("a separator is NONE or a byte, not 10");
        }
        places.fieldSeparator = c;
    }

    public int key(int f, int c, int e, int d, int flags)
            throws IllegalArgumentException, UnsupportedOperationException {
        boolean beginIsFine = isWithin(f, 1, HIGHEST_NUMBER_IN_A_KEY) && isWithin(c, 1, HIGHEST_NUMBER_IN_A_KEY);
        boolean endIsFine = isWithin(e, 0, HIGHEST_NUMBER_IN_A_KEY) && isWithin(d, 0, HIGHEST_NUMBER_IN_A_KEY);
        if (!beginIsFine || !endIsFine || !isWithin(flags, 0, ALL_FLAGS)) {
            throw new IllegalArgumentException("a number of the key is not as it may be");
        }
        if (order.keyCount >= MOST_KEYS) {
            throw new UnsupportedOperationException("there are 6 keys");
        }
        order.addKey(new Key(f, c, e, d, flags));
        return order.keyCount;
    }

    public int keyless() {
        int before = order.keyCount;
        order.keyCount = 0;
        return before;
    }

    public void memory(int m, int w) throws IllegalArgumentException {
        if (!isWithin(m, 2, 500) || !isWithin(w, 2, 16)) {
            throw new IllegalArgumentException("memory is 2 to 500 lines, and 2 to 16 runs are merged");
        }
        linesInMemory = m;
        runsAtATime = w;
    }

    public int lines() {
        return text.lineCount();
    }

    public int place(int line, int k, boolean end) throws IndexOutOfBoundsException {
        if (!isLine(line) || !isWithin(k, 0, order.keysInUse() - 1)) {
            throw new IndexOutOfBoundsException("there is no such line or key");
        }
        Key used = order.keyInUse(k);
        int flags = order.flagsOf(used);
        int at = end ? places.endOf(used, flags, line) : places.beginOf(used, flags, line);
        return at - text.startOf(line);
    }

    public int compare(int a, int b) throws IndexOutOfBoundsException {
        if (!isLine(a) || !isLine(b)) {
            throw new IndexOutOfBoundsException("there is no such line");
        }
        return order.comparedByKeys(a, b);
    }

    public int sort() throws UnsupportedOperationException {
        int count = text.lineCount();
        if (count > MOST_LINES) {
            throw new UnsupportedOperationException("there are more than 1000 lines");
        }
        ranking.rankFirst(count);
        runs.makeRuns(count, linesInMemory);
        runs.countMerges(runsAtATime);
        // Whatever the runs are, merging all of them gives the lines by rank: the order leaves no two lines equal.
        resultCount = 0;
        for (int rank = 0; rank < count; rank++) {
            addToResult(ranking.lineAt(rank));
        }
        runs.linesDropped = count - resultCount;
        return resultCount;
    }

    public int check() {
        int count = text.lineCount();
        for (int line = 1; line < count; line++) {
            int compared = order.comparedNumbersAside(line - 1, line);
            if (compared > 0 || (order.isOnce && compared == 0)) {
                return line;
            }
        }
        return NONE;
    }

    public int merge(int n) throws IllegalArgumentException, UnsupportedOperationException {
        if (n < 1) {
            throw new IllegalArgumentException("a piece has one line or more");
        }
        int count = text.lineCount();
        if (count > MOST_LINES) {
            throw new UnsupportedOperationException("there are more than 1000 lines");
        }
        ranking.rankFirst(count);
        heap.clear();
        for (int line = 0; line < count; line++) {
            if (line % n == 0) {
                heap.put(ranking.rankOf(line));
            }
        }
        resultCount = 0;
        for (int out = 0; out < count; out++) {
            int line = ranking.lineAt(heap.takeLeast());
            addToResult(line);
            int behind = line + 1;
            if (behind < count && behind % n != 0) {
                heap.put(ranking.rankOf(behind));
            }
        }
        return resultCount;
    }

    public int result(int i) {
        return isWithin(i, 0, resultCount - 1) ? resultLines[i] : NONE;
    }

    public int byteAt(int i, int k) {
        if (!isWithin(i, 0, resultCount - 1)) {
            return NONE;
        }
        int start = text.startOf(resultLines[i]);
        int length = text.stopOf(resultLines[i]) - start;
        return isWithin(k, 0, length - 1) ? text.at(start + k) : NONE;
    }

    public int run(int i) {
        return isWithin(i, 0, runs.runCount - 1) ? runs.lengths[i] : NONE;
    }

    public int about(int what) throws IllegalArgumentException {
        switch (what) {
            case 0:
                return runs.runCount;
            case 1:
                return runs.mergeCount;
            case 2:
                return runs.linesMoved;
            case 3:
                return runs.linesDropped;
            case 4:
                return text.length;
            case 5:
                return order.keyCount;
            case 6:
                return resultCount;
            default:
                throw new IllegalArgumentException("nothing is told about this");
        }
    }

    private boolean isLine(int line) {
        return isWithin(line, 0, text.lineCount() - 1);
    }

    private void addToResult(int line) {
        boolean isRepeated = order.isOnce && resultCount > 0
                && order.comparedByKeys(resultLines[resultCount - 1], line) == 0;
        if (!isRepeated && resultCount < MOST_LINES) {
            resultLines[resultCount] = line;
            resultCount++;
        }
    }

    private static boolean isWithin(int number, int least, int most) {
        return number >= least && number <= most;
    }

    /** The bytes, and where each byte 10 stands. */
    private static final class Text {
        private static final int FIRST_ROOM = 640;
        // Below every byte: of two keys that are the same so far the shorter one comes first.
        private static final int BEHIND_THE_LAST = -1;
        private static final int NOT_COUNTED = -2;

        private byte[] bytes;
        private int length;
        private int[] breaks;
        private int breakCount;

        Text() {
            bytes = new byte[FIRST_ROOM];
            length = 0;
            breaks = new int[FIRST_ROOM];
            breakCount = 0;
        }

        void append(int fourBytes) {
            makeRoom(4);
            for (int shift = 24; shift >= 0; shift -= 8) {
                int next = (fourBytes >> shift) & 255;
                if (next == '\n') {
                    breaks[breakCount] = length;
                    breakCount++;
                }
                bytes[length] = (byte) next;
                length++;
            }
        }

        // The rows grow, as most texts are far shorter than the longest one that may be.
        private void makeRoom(int more) {
            if (length + more > bytes.length) {
                bytes = Arrays.copyOf(bytes, bytes.length * 2);
            }
            if (breakCount + more > breaks.length) {
                breaks = Arrays.copyOf(breaks, breaks.length * 2);
            }
        }

        void keepFirst(int n) {
            length = n;
            while (breakCount > 0 && breaks[breakCount - 1] >= n) {
                breakCount--;
            }
        }

        int lineCount() {
            return startOf(breakCount) < length ? breakCount + 1 : breakCount;
        }

        int startOf(int line) {
            return line > 0 ? breaks[line - 1] + 1 : 0;
        }

        int stopOf(int line) {
            return line < breakCount ? breaks[line] : length;
        }

        int at(int place) {
            return bytes[place] & 255;
        }

        boolean isBlankAt(int place) {
            return bytes[place] == ' ' || bytes[place] == '\t';
        }

        int passDigits(int from, int to) {
            int at = from;
            while (at < to && bytes[at] >= '0' && bytes[at] <= '9') {
                at++;
            }
            return at;
        }

        int comparedBytes(int aFrom, int aTo, int bFrom, int bTo, int flags) {
            int a = aFrom;
            int b = bFrom;
            while (a < aTo || b < bTo) {
                int left = a < aTo ? weightOf(at(a), flags) : BEHIND_THE_LAST;
                int right = b < bTo ? weightOf(at(b), flags) : BEHIND_THE_LAST;
                if (left == NOT_COUNTED) {
                    a++;
                } else if (right == NOT_COUNTED) {
                    b++;
                } else if (left != right) {
                    return left < right ? -1 : 1;
                } else {
                    a++;
                    b++;
                }
            }
            return 0;
        }

        private static int weightOf(int value, int flags) {
            if ((flags & ONLY_32_TO_126) != 0 && (value < 32 || value > 126)) {
                return NOT_COUNTED;
            }
            boolean isSmall = value >= 'a' && value <= 'z';
            if ((flags & ONLY_BLANKS_LETTERS_DIGITS) != 0) {
                boolean isBlank = value == ' ' || value == '\t';
                boolean isCapital = value >= 'A' && value <= 'Z';
                boolean isDigit = value >= '0' && value <= '9';
                if (!isBlank && !isSmall && !isCapital && !isDigit) {
                    return NOT_COUNTED;
                }
            }
            return isSmall && (flags & SMALL_AS_CAPITAL) != 0 ? value - 'a' + 'A' : value;
        }
    }

    private static final class Key {
        private final int firstField;
        private final int firstCharacter;
        private final int lastField;
        private final int lastCharacter;
        private final int ownFlags;

        Key(int firstField, int firstCharacter, int lastField, int lastCharacter, int ownFlags) {
            this.firstField = firstField;
            this.firstCharacter = firstCharacter;
            this.lastField = lastField;
            this.lastCharacter = lastCharacter;
            this.ownFlags = ownFlags;
        }
    }

    /** Where fields and keys begin and end, as places in the text. */
    private static final class Places {
        private final Text text;
        private int fieldSeparator;

        Places(Text text) {
            this.text = text;
            fieldSeparator = NONE;
        }

        int beginOf(Key key, int flags, int line) {
            int stop = text.stopOf(line);
            int at = fieldStart(key.firstField, text.startOf(line), stop);
            if (at == NONE) {
                return stop;
            }
            if ((flags & PASS_BLANKS_AT_BEGIN) != 0) {
                at = passBlanksOfField(at, stop);
            }
            return Math.min(stop, at + key.firstCharacter - 1);
        }

        int endOf(Key key, int flags, int line) {
            int stop = text.stopOf(line);
            if (key.lastField == 0) {
                return stop;
            }
            int at = fieldStart(key.lastField, text.startOf(line), stop);
            if (at == NONE) {
                return stop;
            }
            if (key.lastCharacter == 0) {
                return fieldStop(at, stop);
            }
            if ((flags & PASS_BLANKS_AT_END) != 0) {
                at = passBlanksOfField(at, stop);
            }
            return Math.min(stop, at + key.lastCharacter);
        }

        private int fieldStart(int number, int from, int to) {
            int at = from;
            for (int passed = 1; passed < number; passed++) {
                at = fieldStop(at, to);
                if (at == to) {
                    return NONE;
                }
                if (fieldSeparator != NONE) {
                    at++;
                }
            }
            // Field 1 of an empty line may not be there either, but keys begin and end at the same place then.
            return at;
        }

        private int fieldStop(int from, int to) {
            byte[] bytes = text.bytes;
            int at = from;
            if (fieldSeparator != NONE) {
                while (at < to && (bytes[at] & 255) != fieldSeparator) {
                    at++;
                }
                return at;
            }
            while (at < to && (bytes[at] == ' ' || bytes[at] == '\t')) {
                at++;
            }
            while (at < to && bytes[at] != ' ' && bytes[at] != '\t') {
                at++;
            }
            return at;
        }

        // A separator may be a blank itself: it ends the field, so it is not passed.
        private int passBlanksOfField(int from, int to) {
            int at = from;
            while (at < to && text.isBlankAt(at) && text.at(at) != fieldSeparator) {
                at++;
            }
            return at;
        }
    }

    /** A number as it stands in the text: of any length, so its digits stay where they are. */
    private static final class Numeral {
        private int sign;
        private int whole;
        private int wholeStop;
        private int fraction;
        private int fractionStop;

        // Outer zeros are left out, so that equal numbers have equal digits.
        void read(Text text, int from, int to) {
            int at = from;
            while (at < to && text.isBlankAt(at)) {
                at++;
            }
            boolean isMinus = at < to && text.at(at) == '-';
            if (isMinus) {
                at++;
            }
            while (at < to && text.at(at) == '0') {
                at++;
            }
            whole = at;
            wholeStop = text.passDigits(whole, to);
            boolean hasPoint = wholeStop < to && text.at(wholeStop) == '.';
            fraction = hasPoint ? wholeStop + 1 : wholeStop;
            fractionStop = hasPoint ? text.passDigits(fraction, to) : fraction;
            while (fractionStop > fraction && text.at(fractionStop - 1) == '0') {
                fractionStop--;
            }
            boolean isZero = whole == wholeStop && fraction == fractionStop;
            sign = isZero ? 0 : isMinus ? -1 : 1;
        }

        int wholeLength() {
            return wholeStop - whole;
        }
    }

    /** The order of lines, and the keys and ways that make it. */
    private static final class Order {
        private final Text text;
        private final Places places;
        private final Key[] keys;
        private final Key wholeLine;
        private final Numeral left;
        private final Numeral right;
        private int keyCount;
        private int allsFlags;
        private boolean isStable;
        private boolean isOnce;

        Order(Text text, Places places) {
            this.text = text;
            this.places = places;
            wholeLine = new Key(1, 1, 0, 0, 0);
            keys = new Key[MOST_KEYS];
            for (int k = 0; k < MOST_KEYS; k++) {
                keys[k] = wholeLine;
            }
            left = new Numeral();
            right = new Numeral();
            keyCount = 0;
            allsFlags = 0;
            isStable = false;
            isOnce = false;
        }

        void addKey(Key key) {
            if (keyCount < MOST_KEYS) {
                keys[keyCount] = key;
                keyCount++;
            }
        }

        int keysInUse() {
            return Math.max(1, keyCount);
        }

        Key keyInUse(int k) {
            return k < keyCount ? keys[k] : wholeLine;
        }

        int flagsOf(Key key) {
            return key.ownFlags == 0 ? allsFlags : key.ownFlags;
        }

        int comparedNumbersAside(int a, int b) {
            int byKeys = comparedByKeys(a, b);
            if (byKeys != 0 || isStable || isOnce) {
                return byKeys;
            }
            int byBytes = text.comparedBytes(text.startOf(a), text.stopOf(a), text.startOf(b), text.stopOf(b), 0);
            return (allsFlags & REVERSED) != 0 ? -byBytes : byBytes;
        }

        int comparedByKeys(int a, int b) {
            int inUse = keysInUse();
            for (int k = 0; k < inUse; k++) {
                Key key = keyInUse(k);
                int flags = flagsOf(key);
                int aFrom = places.beginOf(key, flags, a);
                int aTo = places.endOf(key, flags, a);
                int bFrom = places.beginOf(key, flags, b);
                int bTo = places.endOf(key, flags, b);
                int compared = (flags & AS_NUMBERS) != 0
                        ? comparedAsNumbers(aFrom, aTo, bFrom, bTo)
                        : text.comparedBytes(aFrom, aTo, bFrom, bTo, flags);
                if (compared != 0) {
                    return (flags & REVERSED) != 0 ? -compared : compared;
                }
            }
            return 0;
        }

        private int comparedAsNumbers(int aFrom, int aTo, int bFrom, int bTo) {
            left.read(text, aFrom, aTo);
            right.read(text, bFrom, bTo);
            if (left.sign != right.sign) {
                return Integer.compare(left.sign, right.sign);
            }
            int compared = Integer.compare(left.wholeLength(), right.wholeLength());
            if (compared == 0) {
                compared = text.comparedBytes(left.whole, left.wholeStop, right.whole, right.wholeStop, 0);
            }
            if (compared == 0) {
                compared = text.comparedBytes(
                        left.fraction, left.fractionStop, right.fraction, right.fractionStop, 0);
            }
            return left.sign < 0 ? -compared : compared;
        }
    }

    /** Each line's rank by the order, so that all that comes behind it compares ranks alone. */
    private static final class Ranking {
        private final Order order;
        private final int[] ranks;
        private final int[] ranked;

        Ranking(Order order) {
            this.order = order;
            ranks = new int[MOST_LINES];
            ranked = new int[MOST_LINES];
        }

        void rankFirst(int count) {
            for (int line = 0; line < count; line++) {
                int low = 0;
                int high = line;
                while (low < high) {
                    int middle = (low + high) / 2;
                    // Those that are ranked have lower numbers: an equal one of them stays in front.
                    if (order.comparedNumbersAside(ranked[middle], line) <= 0) {
                        low = middle + 1;
                    } else {
                        high = middle;
                    }
                }
                System.arraycopy(ranked, low, ranked, low + 1, line - low);
                ranked[low] = line;
            }
            for (int rank = 0; rank < count; rank++) {
                ranks[ranked[rank]] = rank;
            }
        }

        int rankOf(int line) {
            return ranks[line];
        }

        int lineAt(int rank) {
            return ranked[rank];
        }
    }

    /** Numbers of which the least one is taken out. */
    private static final class Heap {
        private final int[] numbers;
        private int count;

        Heap() {
            numbers = new int[MOST_LINES];
            count = 0;
        }

        void clear() {
            count = 0;
        }

        void put(int number) {
            if (count == MOST_LINES) {
                return;
            }
            int at = count;
            count++;
            while (at > 0 && numbers[(at - 1) / 2] > number) {
                numbers[at] = numbers[(at - 1) / 2];
                at = (at - 1) / 2;
            }
            numbers[at] = number;
        }

        int takeLeast() {
            int least = numbers[0];
            if (count > 0) {
                count--;
                sinkFromTop(numbers[count]);
            }
            return least;
        }

        private void sinkFromTop(int number) {
            int at = 0;
            int below = 1;
            while (below < count) {
                if (below + 1 < count && numbers[below + 1] < numbers[below]) {
                    below++;
                }
                if (numbers[below] >= number) {
                    break;
                }
                numbers[at] = numbers[below];
                at = below;
                below = 2 * at + 1;
            }
            numbers[at] = number;
        }
    }

    /** What the latest sort made: runs out of memory, and merges of them. */
    private static final class Runs {
        private final Ranking ranking;
        private final Heap heap;
        private final int[] lengths;
        private final int[] queue;
        private int runCount;
        private int mergeCount;
        private int linesMoved;
        private int linesDropped;

        Runs(Ranking ranking, Heap heap) {
            this.ranking = ranking;
            this.heap = heap;
            lengths = new int[MOST_LINES];
            queue = new int[2 * MOST_LINES];
            runCount = 0;
            mergeCount = 0;
            linesMoved = 0;
            linesDropped = 0;
        }

        // The heap has run * MOST_LINES + rank, so that lines that wait for the next run come behind this one's.
        void makeRuns(int count, int linesInMemory) {
            int next = Math.min(count, linesInMemory);
            heap.clear();
            for (int line = 0; line < next; line++) {
                heap.put(ranking.rankOf(line));
            }
            runCount = 0;
            for (int out = 0; out < count; out++) {
                int least = heap.takeLeast();
                int current = least / MOST_LINES;
                addLineToRun(current);
                if (next < count) {
                    int coming = ranking.rankOf(next);
                    int itsRun = coming > least % MOST_LINES ? current : current + 1;
                    heap.put(itsRun * MOST_LINES + coming);
                    next++;
                }
            }
        }

        private void addLineToRun(int current) {
            if (current == runCount && runCount < MOST_LINES) {
                lengths[runCount] = 0;
                runCount++;
            }
            lengths[current]++;
        }

        // How much is moved hangs on the lengths alone.
        void countMerges(int runsAtATime) {
            System.arraycopy(lengths, 0, queue, 0, runCount);
            int first = 0;
            int behindLast = runCount;
            mergeCount = 0;
            linesMoved = 0;
            while (behindLast - first > 1 && mergeCount < MOST_LINES) {
                int stop = Math.min(behindLast, first + runsAtATime);
                int length = 0;
                for (int at = first; at < stop; at++) {
                    length += queue[at];
                }
                first = stop;
                queue[behindLast] = length;
                behindLast++;
                mergeCount++;
                linesMoved += length;
            }
        }
    }
}
