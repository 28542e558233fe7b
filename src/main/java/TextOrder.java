import java.util.NoSuchElementException;

/**
 * Text taken out of a page: signs at places become letters, lines, blocks, words. What is told is worked out
 * anew by the first call that asks for it after a change, in rows that are made once.
 */
public final class TextOrder {
    private static final int MOST_SIGNS = 200;
    private static final int MOST_SOUGHT = 20;
    private static final int MOST_LETTERS = 600;
    private static final int MAPS = 4;
    private static final int CODES = 256;
    private static final long FARTHEST = 1000000L;
    private static final long WIDEST = 1000000L;
    private static final int LARGEST = 1000;
    private static final int LAST_TAG = 100;
    private static final int LAST_LETTER = 65535;
    private static final int UNTOLD_LETTER = 65533;
    private static final int BLANK = 32;
    private static final int LINE_END = 10;
    private static final int HYPHEN = 45;
    private static final int SMALL_A = 97;
    private static final int SMALL_Z = 122;
    private static final int NONE = -1;

    /** Rows have a place for every number of eight bits, so that a number out of a Ranking always fits. */
    private static final int ROOM = 256;
    private static final int NUMBER_BITS = 8;
    private static final long NUMBER_MASK = 255L;

    /** More than any two of u, or any two of v, are apart: what is multiplied by it ranks before them. */
    private static final long SPAN = 4000000L;

    private static final long CUT_SIZES = 3L;
    private static final long ACROSS_SIZES = 2L;
    private static final long DOWN_SIZES = 1L;
    private static final long SPACE_SHARE = 250L;

    private final Signs signs;
    private final Maps maps;
    private final Places places;
    private final Lines lines;
    private final Segments segments;
    private final Blocks blocks;
    private final Text text;
    private final Search search;
    private boolean current;

    public TextOrder() {
        signs = new Signs();
        maps = new Maps();
        places = new Places();
        lines = new Lines();
        segments = new Segments();
        blocks = new Blocks();
        text = new Text();
        search = new Search();
        current = false;
    }

    public int sign(int code, long x, long y, long width, int size)
            throws IllegalArgumentException, UnsupportedOperationException {
        if (!isCode(code) || !isOnPage(x) || !isOnPage(y)) {
            throw new IllegalArgumentException("no such code or place");
        }
        if (width < 0 || width > WIDEST || size < 1 || size > LARGEST) {
            throw new IllegalArgumentException("no such width or size");
        }
        if (signs.count >= MOST_SIGNS) {
            throw new UnsupportedOperationException("there are 200 signs");
        }
        current = false;
        return signs.add(code, x, y, width, size);
    }

    public int turn(int sign, boolean on) throws NoSuchElementException {
        requireSign(sign);
        int before = signs.turned[sign] ? 1 : 0;
        signs.turned[sign] = on;
        current = false;
        return before;
    }

    public int map(int kind, int code, int letter, int second)
            throws IndexOutOfBoundsException, IllegalArgumentException {
        if (kind < 0 || kind >= MAPS || !isCode(code)) {
            throw new IndexOutOfBoundsException("no such map or code");
        }
        if (letter < 0 || letter > LAST_LETTER || second < 0 || second > LAST_LETTER) {
            throw new IllegalArgumentException("no such letter");
        }
        if (letter == 0 && second != 0) {
            throw new IllegalArgumentException("a second letter without a first");
        }
        current = false;
        return maps.tell(kind, code, letter, second);
    }

    public int tag(int sign, int tag) throws NoSuchElementException, IllegalArgumentException {
        requireSign(sign);
        if (tag < NONE || tag > LAST_TAG) {
            throw new IllegalArgumentException("no such tag");
        }
        int before = signs.tags[sign];
        signs.tags[sign] = tag;
        current = false;
        return before;
    }

    public int length() {
        workOut();
        return text.count;
    }

    public int letter(int i) throws IndexOutOfBoundsException {
        requireLetter(i);
        return text.letters[i];
    }

    public int from(int i) throws IndexOutOfBoundsException {
        requireLetter(i);
        return text.owners[i];
    }

    public int line(int sign) throws NoSuchElementException {
        requireSign(sign);
        workOut();
        return lines.lineOf[sign];
    }

    public int block(int sign) throws NoSuchElementException {
        requireSign(sign);
        workOut();
        return blocks.blockOf(segments.segmentOf[sign]);
    }

    public int twice(int sign) throws NoSuchElementException {
        requireSign(sign);
        workOut();
        return places.doubleOf[sign];
    }

    public boolean space(int sign) throws NoSuchElementException {
        requireSign(sign);
        workOut();
        return segments.spaced[sign];
    }

    public long share(long gap, long width) throws ArithmeticException {
        if (width == 0) {
            throw new ArithmeticException("a share of no width");
        }
        return shareOf(gap, width);
    }

    public int word(int i, int what) throws IndexOutOfBoundsException {
        workOut();
        if (i == NONE) {
            return text.countWords();
        }
        int begin = text.beginOfWord(i);
        if (begin < 0 || what < 0 || what > 1) {
            throw new IndexOutOfBoundsException("no such word, or nothing to tell of it");
        }
        return what == 0 ? begin : text.lettersOfWord(begin);
    }

    public int find(int c) throws IllegalArgumentException, UnsupportedOperationException {
        if (c < 0 || c > LAST_LETTER) {
            throw new IllegalArgumentException("no such letter");
        }
        if (c == 0) {
            workOut();
            return search.seekIn(text);
        }
        if (search.soughtCount >= MOST_SOUGHT) {
            throw new UnsupportedOperationException("20 letters are sought");
        }
        return search.add(c);
    }

    public int found(int i) throws IndexOutOfBoundsException {
        if (i < 0 || i >= search.foundCount) {
            throw new IndexOutOfBoundsException("no such place");
        }
        return search.foundAt[i];
    }

    public int area(long x, long y, long x2, long y2) {
        workOut();
        int count = 0;
        for (int i = 0; i < text.count; i++) {
            int owner = text.owners[i];
            if (owner >= 0 && owner < signs.count && isBetween(signs.x[owner], x, x2)
                    && isBetween(signs.y[owner], y, y2)) {
                count++;
            }
        }
        return count;
    }

    private void workOut() {
        if (current) {
            return;
        }
        places.set(signs, maps);
        lines.gather(signs, places);
        segments.cut(signs, places, lines);
        blocks.part(segments);
        text.order(signs, lines, segments, blocks);
        text.write(signs, places, segments, blocks);
        current = true;
    }

    private void requireSign(int sign) {
        if (sign < 0 || sign >= signs.count) {
            throw new NoSuchElementException("no such sign");
        }
    }

    private void requireLetter(int i) {
        workOut();
        if (i < 0 || i >= text.count) {
            throw new IndexOutOfBoundsException("no such letter of the text");
        }
    }

    private static boolean isCode(int code) {
        return code >= 0 && code < CODES;
    }

    private static boolean isOnPage(long place) {
        return isBetween(place, -FARTHEST, FARTHEST);
    }

    private static boolean isBetween(long value, long least, long most) {
        return value >= least && value <= most;
    }

    private static long shareOf(long gap, long width) {
        return width == 0 ? 0 : 1000L * gap / width;
    }

    /** Numbers 0 .. 255 kept in the order of their ranks, those of one rank by themselves. */
    private static final class Ranking {
        final long[] keys = new long[ROOM];
        int count;

        void clear() {
            count = 0;
        }

        void put(long rank, int number) {
            if (count >= ROOM) {
                return;
            }
            // The number stands in the key, so that one comparison settles rank and number.
            long key = (rank << NUMBER_BITS) | (number & NUMBER_MASK);
            int at = count;
            while (at > 0 && keys[at - 1] > key) {
                keys[at] = keys[at - 1];
                at--;
            }
            keys[at] = key;
            count++;
        }

        int numberAt(int i) {
            return i >= 0 && i < count ? (int) (keys[i] & NUMBER_MASK) : 0;
        }
    }

    /** The signs as they were given, and what has been said of them since. */
    private static final class Signs {
        final int[] codes = new int[ROOM];
        final long[] x = new long[ROOM];
        final long[] y = new long[ROOM];
        final long[] widths = new long[ROOM];
        final int[] sizes = new int[ROOM];
        final boolean[] turned = new boolean[ROOM];
        final int[] tags = new int[ROOM];
        int count;

        int add(int code, long atX, long atY, long width, int size) {
            if (count >= ROOM) {
                return NONE;
            }
            codes[count] = code;
            x[count] = atX;
            y[count] = atY;
            widths[count] = width;
            sizes[count] = size;
            turned[count] = false;
            tags[count] = NONE;
            count++;
            return count - 1;
        }
    }

    /** What the maps tell of codes; a letter 0 is none. */
    private static final class Maps {
        final int[] firsts = new int[MAPS * CODES];
        final int[] seconds = new int[MAPS * CODES];

        int tell(int kind, int code, int letter, int second) {
            int at = kind * CODES + code;
            if (at < 0 || at >= firsts.length) {
                return 0;
            }
            int before = (firsts[at] > 0 ? 1 : 0) + (seconds[at] > 0 ? 1 : 0);
            firsts[at] = letter;
            seconds[at] = second;
            return before;
        }

        int firstLetter(int code) {
            int at = entryOf(code);
            return at < 0 ? UNTOLD_LETTER : firsts[at];
        }

        int secondLetter(int code) {
            int at = entryOf(code);
            return at < 0 ? 0 : seconds[at];
        }

        private int entryOf(int code) {
            if (!isCode(code)) {
                return NONE;
            }
            for (int at = code; at < firsts.length; at += CODES) {
                if (firsts[at] > 0) {
                    return at;
                }
            }
            return NONE;
        }
    }

    /** Where the signs are along and across their lines, their letters, and which are there twice. */
    private static final class Places {
        final long[] u = new long[ROOM];
        final long[] v = new long[ROOM];
        final int[] firsts = new int[ROOM];
        final int[] seconds = new int[ROOM];
        final int[] doubleOf = new int[ROOM];

        void set(Signs signs, Maps maps) {
            for (int i = 0; i < signs.count; i++) {
                u[i] = signs.turned[i] ? signs.y[i] : signs.x[i];
                v[i] = signs.turned[i] ? -signs.x[i] : signs.y[i];
                firsts[i] = maps.firstLetter(signs.codes[i]);
                seconds[i] = maps.secondLetter(signs.codes[i]);
                doubleOf[i] = firstAlike(signs, i);
            }
        }

        private int firstAlike(Signs signs, int sign) {
            for (int earlier = 0; earlier < sign; earlier++) {
                if (doubleOf[earlier] < 0 && looksAlike(signs, sign, earlier) && isNear(signs, sign, earlier)) {
                    return earlier;
                }
            }
            return NONE;
        }

        private boolean looksAlike(Signs signs, int sign, int earlier) {
            return firsts[sign] == firsts[earlier] && seconds[sign] == seconds[earlier]
                    && signs.turned[sign] == signs.turned[earlier];
        }

        private boolean isNear(Signs signs, int sign, int earlier) {
            return 4 * Math.abs(u[sign] - u[earlier]) <= signs.widths[earlier]
                    && 4 * Math.abs(v[sign] - v[earlier]) <= signs.sizes[earlier];
        }
    }

    /** The lines: which one a sign is in, and all signs in the order of lines. */
    private static final class Lines {
        final int[] lineOf = new int[ROOM];
        final Ranking byBaseline = new Ranking();
        final Ranking inLines = new Ranking();

        void gather(Signs signs, Places places) {
            rankByBaseline(signs, places);
            inLines.clear();
            int line = NONE;
            int head = NONE;
            for (int k = 0; k < byBaseline.count; k++) {
                int sign = byBaseline.numberAt(k);
                if (head < 0 || !isInLineOf(signs, places, head, sign)) {
                    head = sign;
                    line++;
                }
                lineOf[sign] = line;
                inLines.put(line * SPAN + places.u[sign], sign);
            }
        }

        private void rankByBaseline(Signs signs, Places places) {
            byBaseline.clear();
            for (int i = 0; i < signs.count; i++) {
                lineOf[i] = NONE;
                if (places.doubleOf[i] < 0) {
                    long turned = signs.turned[i] ? 1 : 0;
                    byBaseline.put((turned * SPAN - places.v[i]) * SPAN + places.u[i], i);
                }
            }
        }

        private boolean isInLineOf(Signs signs, Places places, int head, int sign) {
            return signs.turned[head] == signs.turned[sign]
                    && 2 * (places.v[head] - places.v[sign]) <= signs.sizes[head];
        }
    }

    /**
     * What lies between cuts of lines, numbered by lines, then from left to right. Tops and bottoms are held
     * with the other sign, so that going down a page is like going right.
     */
    private static final class Segments {
        final long[] left = new long[ROOM];
        final long[] right = new long[ROOM];
        final long[] downFrom = new long[ROOM];
        final long[] downTo = new long[ROOM];
        final long[] largest = new long[ROOM];
        final boolean[] turned = new boolean[ROOM];
        final int[] segmentOf = new int[ROOM];
        final int[] rankOf = new int[ROOM];
        final boolean[] spaced = new boolean[ROOM];
        int count;

        void cut(Signs signs, Places places, Lines lines) {
            forget(signs);
            int before = NONE;
            for (int k = 0; k < lines.inLines.count; k++) {
                int sign = lines.inLines.numberAt(k);
                if (before < 0 || lines.lineOf[before] != lines.lineOf[sign]
                        || isCutBehind(signs, places, before, sign)) {
                    begin(signs, places, sign);
                }
                stretch(signs, places, sign);
                segmentOf[sign] = count - 1;
                rankOf[sign] = k;
                before = sign;
            }
        }

        boolean isNext(int former, int later) {
            return segmentOf[former] == segmentOf[later] && rankOf[former] + 1 == rankOf[later];
        }

        private void forget(Signs signs) {
            count = 0;
            for (int i = 0; i < signs.count; i++) {
                segmentOf[i] = NONE;
                rankOf[i] = NONE;
                spaced[i] = false;
            }
        }

        private boolean isCutBehind(Signs signs, Places places, int sign, int next) {
            long width = signs.widths[sign];
            long gap = places.u[next] - places.u[sign] - width;
            if (gap >= CUT_SIZES * signs.sizes[sign]) {
                return true;
            }
            spaced[sign] = gap > 0 && width > 0 && shareOf(gap, width) >= SPACE_SHARE;
            return false;
        }

        private void begin(Signs signs, Places places, int sign) {
            if (count >= ROOM) {
                return;
            }
            left[count] = places.u[sign];
            right[count] = places.u[sign];
            downFrom[count] = -places.v[sign];
            downTo[count] = -places.v[sign];
            largest[count] = 0;
            turned[count] = signs.turned[sign];
            count++;
        }

        private void stretch(Signs signs, Places places, int sign) {
            int last = count - 1;
            if (last < 0) {
                return;
            }
            right[last] = Math.max(right[last], places.u[sign] + signs.widths[sign]);
            downFrom[last] = Math.min(downFrom[last], -(places.v[sign] + signs.sizes[sign]));
            downTo[last] = Math.max(downTo[last], -places.v[sign]);
            largest[last] = Math.max(largest[last], signs.sizes[sign]);
        }
    }

    /** The blocks: segments parted until no gap is wide enough, without recursion as parts may lie 200 deep. */
    private static final class Blocks {
        final Ranking acrossPage = new Ranking();
        final Ranking downPage = new Ranking();
        final int[] partOf = new int[ROOM];
        final int[] blockOfSegment = new int[ROOM];
        final int[] waiting = new int[ROOM];
        int waitingCount;
        int parts;
        int count;

        void part(Segments segments) {
            begin(segments);
            // A part is cut or closed: 200 segments can be cut 199 times and closed 200 times.
            for (int step = 0; step < 2 * ROOM && waitingCount > 0; step++) {
                waitingCount--;
                int part = waiting[waitingCount];
                if (isCutInTwo(segments, part)) {
                    push(parts);
                    push(part);
                    parts++;
                } else {
                    close(segments, part);
                }
            }
        }

        int blockOf(int segment) {
            return segment >= 0 && segment < ROOM ? blockOfSegment[segment] : NONE;
        }

        private void begin(Segments segments) {
            acrossPage.clear();
            downPage.clear();
            for (int s = 0; s < segments.count; s++) {
                acrossPage.put(segments.left[s], s);
                downPage.put(segments.downFrom[s], s);
                partOf[s] = segments.turned[s] ? 1 : 0;
            }
            parts = 2;
            count = 0;
            waitingCount = 0;
            push(1);
            push(0);
        }

        private void push(int part) {
            if (waitingCount < ROOM) {
                waiting[waitingCount] = part;
                waitingCount++;
            }
        }

        private boolean isCutInTwo(Segments segments, int part) {
            long size = largestOf(segments, part);
            int at = widestGap(acrossPage, segments.left, segments.right, part, ACROSS_SIZES * size);
            if (at >= 0) {
                split(acrossPage, at, part);
                return true;
            }
            at = widestGap(downPage, segments.downFrom, segments.downTo, part, DOWN_SIZES * size);
            if (at >= 0) {
                split(downPage, at, part);
                return true;
            }
            return false;
        }

        private long largestOf(Segments segments, int part) {
            long size = 0;
            for (int s = 0; s < segments.count; s++) {
                if (partOf[s] == part) {
                    size = Math.max(size, segments.largest[s]);
                }
            }
            return size;
        }

        /** Where, in the order, the segments behind the widest gap begin; NONE where no gap has the least width. */
        private int widestGap(Ranking order, long[] begins, long[] ends, int part, long least) {
            int at = NONE;
            long widest = least - 1;
            long reach = 0;
            boolean isFirst = true;
            for (int k = 0; k < order.count; k++) {
                int s = order.numberAt(k);
                if (s >= begins.length || s >= ends.length || partOf[s] != part) {
                    continue;
                }
                if (!isFirst && begins[s] - reach > widest) {
                    widest = begins[s] - reach;
                    at = k;
                }
                reach = isFirst ? ends[s] : Math.max(reach, ends[s]);
                isFirst = false;
            }
            return at;
        }

        private void split(Ranking order, int at, int part) {
            for (int k = at; k < order.count; k++) {
                int s = order.numberAt(k);
                if (partOf[s] == part) {
                    partOf[s] = parts;
                }
            }
        }

        /** A part without segments, as the turned ones are on most pages, is no block. */
        private void close(Segments segments, int part) {
            boolean isEmpty = true;
            for (int s = 0; s < segments.count; s++) {
                if (partOf[s] == part) {
                    blockOfSegment[s] = count;
                    isEmpty = false;
                }
            }
            if (!isEmpty) {
                count++;
            }
        }
    }

    /** The text, each letter with the sign that it is of. */
    private static final class Text {
        final Ranking reading = new Ranking();
        final int[] letters = new int[MOST_LETTERS];
        final int[] owners = new int[MOST_LETTERS];
        int count;

        void order(Signs signs, Lines lines, Segments segments, Blocks blocks) {
            reading.clear();
            for (int k = 0; k < lines.inLines.count; k++) {
                int sign = lines.inLines.numberAt(k);
                long tag = signs.tags[sign] < 0 ? LAST_TAG + 1 : signs.tags[sign];
                long block = blocks.blockOf(segments.segmentOf[sign]);
                reading.put((tag * ROOM + block) * ROOM + k, sign);
            }
        }

        void write(Signs signs, Places places, Segments segments, Blocks blocks) {
            count = 0;
            int former = NONE;
            for (int k = 0; k < reading.count; k++) {
                int sign = reading.numberAt(k);
                if (former >= 0) {
                    if (segments.isNext(former, sign)) {
                        goOn(segments.spaced[former]);
                    } else if (isGoneOn(signs, segments, blocks, former, sign)) {
                        join(places.firsts[sign]);
                    } else {
                        append(LINE_END, NONE);
                    }
                }
                append(places.firsts[sign], sign);
                if (places.seconds[sign] > 0) {
                    append(places.seconds[sign], sign);
                }
                former = sign;
            }
        }

        int countWords() {
            int words = 0;
            for (int i = 0; i < count; i++) {
                if (isBeginOfWord(i)) {
                    words++;
                }
            }
            return words;
        }

        int beginOfWord(int word) {
            int words = 0;
            for (int i = 0; i < count; i++) {
                if (isBeginOfWord(i)) {
                    if (words == word) {
                        return i;
                    }
                    words++;
                }
            }
            return NONE;
        }

        int lettersOfWord(int begin) {
            int end = begin;
            while (end < count && isOfWord(end)) {
                end++;
            }
            return end - begin;
        }

        private boolean isBeginOfWord(int i) {
            return isOfWord(i) && !isOfWord(i - 1);
        }

        private boolean isOfWord(int i) {
            return i >= 0 && i < count && letters[i] != LINE_END && letters[i] != BLANK;
        }

        private boolean isGoneOn(Signs signs, Segments segments, Blocks blocks, int former, int later) {
            int segment = segments.segmentOf[former];
            int other = segments.segmentOf[later];
            return segment != other && blocks.blockOf(segment) == blocks.blockOf(other)
                    && signs.tags[former] == signs.tags[later];
        }

        private void goOn(boolean isSpaced) {
            if (isSpaced) {
                append(BLANK, NONE);
            }
        }

        private void join(int next) {
            if (count > 0 && letters[count - 1] == HYPHEN && next >= SMALL_A && next <= SMALL_Z) {
                count--;
            } else {
                append(BLANK, NONE);
            }
        }

        private void append(int letter, int owner) {
            if (count < MOST_LETTERS) {
                letters[count] = letter;
                owners[count] = owner;
                count++;
            }
        }
    }

    /** The letters that are sought, and the places found by the latest search. */
    private static final class Search {
        final int[] sought = new int[MOST_SOUGHT];
        final int[] foundAt = new int[MOST_LETTERS];
        int soughtCount;
        int foundCount;

        int add(int letter) {
            if (soughtCount < MOST_SOUGHT) {
                sought[soughtCount] = blankOr(letter);
                soughtCount++;
            }
            return soughtCount;
        }

        int seekIn(Text text) {
            foundCount = 0;
            for (int i = 0; soughtCount > 0 && i + soughtCount <= text.count; i++) {
                if (isAt(text, i)) {
                    foundAt[foundCount] = i;
                    foundCount++;
                }
            }
            soughtCount = 0;
            return foundCount;
        }

        private boolean isAt(Text text, int begin) {
            for (int k = 0; k < soughtCount; k++) {
                if (blankOr(text.letters[begin + k]) != sought[k]) {
                    return false;
                }
            }
            return true;
        }

        private static int blankOr(int letter) {
            return letter == LINE_END ? BLANK : letter;
        }
    }
}
