import java.util.ArrayList;
import java.util.Comparator;
import java.util.List;

/** The document's terms written down a second time, with lists, sorts and recursion, to be compared with. */
final class Model {
    static final class Sign {
        int number;
        int code;
        long x;
        long y;
        long width;
        int size;
        boolean turned;
        int tag = -1;
        List<Integer> letters;
        int twice;
        int line;
        int block;
        boolean space;
        Segment segment;

        long u() {
            return turned ? y : x;
        }

        long v() {
            return turned ? -x : y;
        }

        boolean isDoubleOf(Sign other) {
            return letters.equals(other.letters) && turned == other.turned
                    && 4 * Math.abs(u() - other.u()) <= other.width && 4 * Math.abs(v() - other.v()) <= other.size;
        }
    }

    static final class Segment {
        final List<Sign> signs = new ArrayList<>();

        long left() {
            return signs.get(0).u();
        }

        long right() {
            return signs.stream().mapToLong(s -> s.u() + s.width).max().getAsLong();
        }

        long top() {
            return signs.stream().mapToLong(s -> s.v() + s.size).max().getAsLong();
        }

        long bottom() {
            return signs.stream().mapToLong(Sign::v).min().getAsLong();
        }
    }

    final List<Sign> signs = new ArrayList<>();
    final int[][][] maps = new int[4][256][2];
    final List<Integer> text = new ArrayList<>();
    final List<Integer> owners = new ArrayList<>();
    private final List<Segment> segments = new ArrayList<>();
    private final List<List<Segment>> blocks = new ArrayList<>();
    private int lines;

    void add(int code, long x, long y, long width, int size) {
        Sign sign = new Sign();
        sign.number = signs.size();
        sign.code = code;
        sign.x = x;
        sign.y = y;
        sign.width = width;
        sign.size = size;
        signs.add(sign);
    }

    void workOut() {
        lines = 0;
        segments.clear();
        blocks.clear();
        markDoubles();
        for (boolean turned : new boolean[] {false, true}) {
            int known = segments.size();
            gatherLines(turned);
            List<Segment> mine = segments.subList(known, segments.size());
            if (!mine.isEmpty()) {
                part(new ArrayList<>(mine));
            }
        }
        write(readingOrder());
    }

    private List<Integer> lettersOf(int code) {
        for (int[][] map : maps) {
            if (map[code][0] != 0) {
                return map[code][1] == 0 ? List.of(map[code][0]) : List.of(map[code][0], map[code][1]);
            }
        }
        return List.of(65533);
    }

    private void markDoubles() {
        for (Sign sign : signs) {
            sign.letters = lettersOf(sign.code);
            sign.twice = signs.stream().limit(sign.number).filter(e -> e.twice == -1 && sign.isDoubleOf(e))
                    .mapToInt(e -> e.number).findFirst().orElse(-1);
            sign.line = -1;
            sign.block = -1;
            sign.space = false;
            sign.segment = null;
        }
    }

    private void gatherLines(boolean turned) {
        List<Sign> left = new ArrayList<>(signs);
        left.removeIf(s -> s.twice != -1 || s.turned != turned);
        while (!left.isEmpty()) {
            Sign head = left.get(0);
            for (Sign s : left) {
                if (s.v() > head.v() || s.v() == head.v() && s.u() < head.u()) {
                    head = s;
                }
            }
            double least = head.v() - head.size / 2.0;
            List<Sign> line = new ArrayList<>(left);
            line.removeIf(s -> s.v() < least);
            left.removeAll(line);
            line.sort(Comparator.comparingLong(Sign::u).thenComparing(s -> s.number));
            cutLine(line);
            lines++;
        }
    }

    private void cutLine(List<Sign> line) {
        Segment segment = new Segment();
        segments.add(segment);
        for (int i = 0; i < line.size(); i++) {
            Sign sign = line.get(i);
            sign.line = lines;
            sign.segment = segment;
            segment.signs.add(sign);
            if (i + 1 < line.size()) {
                long gap = line.get(i + 1).u() - (sign.u() + sign.width);
                if (gap >= 3L * sign.size) {
                    segment = new Segment();
                    segments.add(segment);
                } else {
                    sign.space = gap > 0 && sign.width > 0 && 1000 * gap / sign.width >= 250;
                }
            }
        }
    }

    private void part(List<Segment> all) {
        long size = all.stream().flatMap(s -> s.signs.stream()).mapToLong(s -> s.size).max().getAsLong();
        List<Segment> sorted = new ArrayList<>(all);
        sorted.sort(Comparator.comparingLong(Segment::left));
        int at = 0;
        long widest = 0;
        for (int i = 1; i < sorted.size(); i++) {
            long right = sorted.subList(0, i).stream().mapToLong(Segment::right).max().getAsLong();
            if (sorted.get(i).left() - right > widest) {
                widest = sorted.get(i).left() - right;
                at = i;
            }
        }
        if (at > 0 && widest >= 2 * size) {
            partBoth(sorted, at);
            return;
        }
        sorted.sort(Comparator.comparingLong(Segment::top).reversed());
        at = 0;
        widest = 0;
        for (int i = 1; i < sorted.size(); i++) {
            long bottom = sorted.subList(0, i).stream().mapToLong(Segment::bottom).min().getAsLong();
            if (bottom - sorted.get(i).top() > widest) {
                widest = bottom - sorted.get(i).top();
                at = i;
            }
        }
        if (at > 0 && widest >= size) {
            partBoth(sorted, at);
            return;
        }
        List<Segment> block = new ArrayList<>(all);
        block.sort(Comparator.comparingInt((Segment s) -> s.signs.get(0).line).thenComparing(Segment::left));
        block.forEach(s -> s.signs.forEach(sign -> sign.block = blocks.size()));
        blocks.add(block);
    }

    private void partBoth(List<Segment> sorted, int at) {
        part(new ArrayList<>(sorted.subList(0, at)));
        part(new ArrayList<>(sorted.subList(at, sorted.size())));
    }

    private List<Sign> readingOrder() {
        List<Sign> order = new ArrayList<>();
        for (int tag = 0; tag <= 101; tag++) {
            for (List<Segment> block : blocks) {
                for (Segment segment : block) {
                    for (Sign sign : segment.signs) {
                        if (sign.tag == (tag == 101 ? -1 : tag)) {
                            order.add(sign);
                        }
                    }
                }
            }
        }
        return order;
    }

    private void write(List<Sign> order) {
        text.clear();
        owners.clear();
        for (int i = 0; i < order.size(); i++) {
            Sign later = order.get(i);
            if (i > 0) {
                between(order.get(i - 1), later);
            }
            for (int letter : later.letters) {
                append(letter, later.number);
            }
        }
    }

    private void between(Sign former, Sign later) {
        if (former.segment == later.segment) {
            List<Sign> row = former.segment.signs;
            if (row.indexOf(later) != row.indexOf(former) + 1) {
                append(10, -1);
            } else if (former.space) {
                append(32, -1);
            }
        } else if (former.block != later.block || former.tag != later.tag) {
            append(10, -1);
        } else {
            int last = text.size() - 1;
            int next = later.letters.get(0);
            if (text.get(last) == 45 && next >= 97 && next <= 122) {
                text.remove(last);
                owners.remove(last);
            } else {
                append(32, -1);
            }
        }
    }

    private void append(int letter, int owner) {
        text.add(letter);
        owners.add(owner);
    }

    List<int[]> words() {
        List<int[]> words = new ArrayList<>();
        int[] open = null;
        for (int i = 0; i < text.size(); i++) {
            if (text.get(i) == 10 || text.get(i) == 32) {
                open = null;
            } else if (open == null) {
                open = new int[] {i, 1};
                words.add(open);
            } else {
                open[1]++;
            }
        }
        return words;
    }

    long lettersIn(long x, long y, long x2, long y2) {
        return owners.stream().filter(o -> o >= 0).map(signs::get)
                .filter(s -> s.x >= x && s.x <= x2 && s.y >= y && s.y <= y2).count();
    }

    List<Integer> placesOf(List<Integer> sought) {
        List<Integer> places = new ArrayList<>();
        for (int i = 0; !sought.isEmpty() && i + sought.size() <= text.size(); i++) {
            boolean all = true;
            for (int k = 0; k < sought.size(); k++) {
                int is = text.get(i + k);
                int want = sought.get(k);
                all &= (is == 10 ? 32 : is) == (want == 10 ? 32 : want);
            }
            if (all) {
                places.add(i);
            }
        }
        return places;
    }
}
