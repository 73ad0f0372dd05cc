import java.util.ArrayList;
import java.util.Arrays;
import java.util.Collections;
import java.util.HashMap;
import java.util.HashSet;
import java.util.List;
import java.util.Map;
import java.util.Random;
import java.util.Set;
import java.util.TreeMap;
import java.util.TreeSet;
import java.util.regex.Matcher;
import java.util.regex.Pattern;

/**
 * The document read again, in the slowest and plainest way, with nothing kept that can be worked out:
 * days go one by one, lines are searched cell by cell, spans are narrowed in any order.
 */
final class PlainModel {
    private static final int NONE = -1, UNKNOWN = -2, OUTSIDE = -3, NOT = -4, FULL = -5;

    private static final class Card {
        int list, publisher, number, back, sky, posted, told;
        long picture;
        String caption = "";
        final int[] shows = {2, 2, 2, 2, 2, 2, 2, 2};
        final List<Integer> view = new ArrayList<>();
        final Map<Card, Integer> otherwise = new HashMap<>();
    }

    private static final class Line {
        int publisher, a, b, back, d, e;
        boolean days;

        boolean isFor(Card card) {
            return card.publisher == publisher && a <= card.number && card.number <= b;
        }
    }

    /** SPANS: TAKEN by the least CARD of a NEGATIVE, PUBLISHED by the CARD. */
    private static final class Settled {
        final Map<Integer, int[]> taken = new HashMap<>();
        final Map<Integer, int[]> published = new HashMap<>();
        boolean quarrel;
    }

    private final List<Card> cards = new ArrayList<>();
    private final List<int[]> laters = new ArrayList<>();
    private final int[][] features = new int[8][];
    private final int[][] backs = new int[5][];
    private final Integer[] landmarks = new Integer[8];
    private long walls = 0;
    private String text = "";
    private List<Line> catalogue = new ArrayList<>();
    private int day = 0, slack = 2, asOf = 999, base = 100;
    private final Random order = new Random(7);

    PlainModel() {
        Arrays.setAll(features, i -> new int[] {0, 20000});
        Arrays.setAll(backs, i -> new int[] {0, 20000});
    }

    // ---- cards

    int card(int list, int publisher, int number, int back, long picture, int sky, int posted) {
        if (list < 0 || list > 3 || publisher < 0 || publisher > 4 || back < 0 || back > 4) return UNKNOWN;
        if (number < 0 || number > 99 || sky < 0 || sky > 4 || posted < -1 || posted > 20000) return OUTSIDE;
        if (cards.size() == 20) return FULL;
        Card card = new Card();
        card.list = list;
        card.publisher = publisher;
        card.number = number;
        card.back = back;
        card.picture = picture;
        card.sky = sky;
        card.posted = posted;
        card.told = day;
        cards.add(card);
        return cards.size() - 1;
    }

    private boolean there(int card) {
        return card >= 0 && card < cards.size() && cards.get(card).told <= asOf;
    }

    private TreeSet<Integer> allThere() {
        TreeSet<Integer> all = new TreeSet<>();
        for (int i = 0; i < cards.size(); i++) if (there(i)) all.add(i);
        return all;
    }

    int caption(int card, long word, int n) {
        if (!there(card)) return UNKNOWN;
        if (n < 0 || n > 8) return OUTSIDE;
        StringBuilder letters = new StringBuilder();
        for (int i = 0; i < n; i++) letters.append((char) (word >> 8 * i & 255));
        if (!letters.toString().matches("[a-z]*")) return OUTSIDE;
        cards.get(card).caption = letters.toString();
        return 1;
    }

    int days(int n) {
        if (n < 1 || n > 99 || day + n > 999) return OUTSIDE;
        return day += n;
    }

    int set(int what, int v) {
        int was;
        if (what == 0 && v >= 0 && v <= 8) { was = slack; slack = v; return was; }
        if (what == 1 && v >= 0 && v <= 999) { was = asOf; asOf = v; return was; }
        if (what == 2 && v >= 1 && v <= 10000) { was = base; base = v; return was; }
        return OUTSIDE;
    }

    private static boolean bit(long picture, int x, int y) {
        return (picture >> 8 * y + x & 1) != 0;
    }

    /** Kept by both CARDS, for it never changes and takes the longest. */
    private int otherwise(Card one, Card other) {
        return one.otherwise.computeIfAbsent(other, o -> workOutOtherwise(one, o));
    }

    private static int workOutOtherwise(Card one, Card other) {
        int best = NONE;
        for (int dx = -2; dx <= 2; dx++) {
            for (int dy = -2; dy <= 2; dy++) {
                int both = 0, unlike = 0;
                for (int x = 0; x < 8; x++) {
                    for (int y = 0; y < 8; y++) {
                        int u = x + dx, v = y + dy;
                        if (u < 0 || u > 7 || v < 0 || v > 7 || y < one.sky || v < other.sky) continue;
                        both++;
                        if (bit(one.picture, x, y) != bit(other.picture, u, v)) unlike++;
                    }
                }
                if (both >= 24 && (best == NONE || unlike < best)) best = unlike;
            }
        }
        return best;
    }

    int difference(int a, int b) {
        if (!there(a) || !there(b) || a == b) return UNKNOWN;
        return otherwise(cards.get(a), cards.get(b));
    }

    private boolean like(int a, int b) {
        int d = otherwise(cards.get(a), cards.get(b));
        return d >= 0 && d <= slack;
    }

    private static int far(String a, String b, Map<String, Integer> known) {
        if (a.isEmpty() || b.isEmpty()) return a.length() + b.length();
        String key = a + " " + b;
        Integer kept = known.get(key);
        if (kept != null) return kept;
        String c = a.substring(1), d = b.substring(1);
        int best = far(c, d, known) + (a.charAt(0) == b.charAt(0) ? 0 : 1);
        best = Math.min(best, 1 + Math.min(far(c, b, known), far(a, d, known)));
        known.put(key, best);
        return best;
    }

    private boolean matching(int a, int b) {
        Card p = cards.get(a), q = cards.get(b);
        if (p.list == q.list || p.publisher != q.publisher || p.back != q.back) return false;
        if (p.number != 0 && q.number != 0 && p.number != q.number) return false;
        return like(a, b) && far(p.caption, q.caption, new HashMap<>()) <= 2;
    }

    /** Every CARD's group by chains. */
    private Map<Integer, TreeSet<Integer>> groups(Set<Integer> among, boolean byMatch) {
        Map<Integer, TreeSet<Integer>> of = new TreeMap<>();
        for (int a : among) of.put(a, new TreeSet<>(Set.of(a)));
        for (int a : among) {
            for (int b : among) {
                if (a < b && of.get(a) != of.get(b) && (byMatch ? matching(a, b) : like(a, b))) {
                    TreeSet<Integer> joined = of.get(a);
                    joined.addAll(of.get(b));
                    for (int c : joined) of.put(c, joined);
                }
            }
        }
        return of;
    }

    int negative(int card) {
        return there(card) ? groups(allThere(), false).get(card).first() : UNKNOWN;
    }

    int far(int a, int b) {
        if (!there(a) || !there(b)) return UNKNOWN;
        return far(cards.get(a).caption, cards.get(b).caption, new HashMap<>());
    }

    int match(int a, int b) {
        if (!there(a) || !there(b) || a == b) return UNKNOWN;
        return matching(a, b) ? 1 : 0;
    }

    private Set<Integer> listsOf(Set<Integer> some) {
        Set<Integer> lists = new HashSet<>();
        for (int c : some) lists.add(cards.get(c).list);
        return lists;
    }

    int of(int card, int what) {
        if (!there(card)) return UNKNOWN;
        Card it = cards.get(card);
        TreeSet<Integer> one = groups(allThere(), true).get(card);
        int rivals = 0;
        for (int list = 0; list < 4; list++) {
            int in = 0;
            for (int c : allThere()) if (c != card && cards.get(c).list == list && matching(card, c)) in++;
            if (in >= 2) rivals++;
        }
        int seen = listsOf(one).size();
        switch (what) {
            case 0: return one.first();
            case 1: return seen;
            case 2: return rivals;
            case 3: {
                int price = base / seen;
                TreeSet<Integer> missing = missing(it.publisher);
                if (missing.contains(it.number - 1) || missing.contains(it.number + 1)) price = price * 3 / 2;
                return rivals > 0 ? price - price / 4 : price;
            }
            case 4: {
                Set<Integer> publishers = new HashSet<>();
                for (int c : groups(allThere(), false).get(card)) publishers.add(cards.get(c).publisher);
                return publishers.size();
            }
            default: return OUTSIDE;
        }
    }

    // ---- series, counts

    private TreeSet<Integer> numbers(int publisher) {
        TreeSet<Integer> numbers = new TreeSet<>();
        for (int c : allThere()) {
            if (cards.get(c).publisher == publisher && cards.get(c).number > 0) numbers.add(cards.get(c).number);
        }
        return numbers;
    }

    private TreeSet<Integer> missing(int publisher) {
        TreeSet<Integer> numbers = numbers(publisher), missing = new TreeSet<>();
        if (!numbers.isEmpty()) for (int n = numbers.first(); n < numbers.last(); n++) missing.add(n);
        missing.removeAll(numbers);
        return missing;
    }

    private List<int[]> gaps(int publisher) {
        List<int[]> gaps = new ArrayList<>();
        for (int n : missing(publisher)) {
            if (!gaps.isEmpty() && gaps.get(gaps.size() - 1)[1] == n - 1) gaps.get(gaps.size() - 1)[1] = n;
            else gaps.add(new int[] {n, n});
        }
        return gaps;
    }

    int series(int publisher, int what) {
        if (publisher < 0 || publisher > 4) return UNKNOWN;
        TreeSet<Integer> numbers = numbers(publisher);
        switch (what) {
            case 0: return numbers.size();
            case 1: return numbers.isEmpty() ? NONE : numbers.first();
            case 2: return numbers.isEmpty() ? NONE : numbers.last();
            case 3: return missing(publisher).size();
            case 4: return gaps(publisher).size();
            default: return OUTSIDE;
        }
    }

    int gap(int publisher, int i) {
        if (publisher < 0 || publisher > 4) return UNKNOWN;
        if (i < 0) return OUTSIDE;
        List<int[]> gaps = gaps(publisher);
        return i < gaps.size() ? 100 * gaps.get(i)[0] + gaps.get(i)[1] : NONE;
    }

    private Set<TreeSet<Integer>> ones() {
        return new HashSet<>(groups(allThere(), true).values());
    }

    int unseen(int part) {
        if (part != 0 && part != 1) return OUTSIDE;
        int f = 0, g = 0;
        for (Set<Integer> one : ones()) {
            if (listsOf(one).size() == 1) f++;
            if (listsOf(one).size() == 2) g++;
        }
        int above = g > 0 ? f * f : f * (f - 1), below = g > 0 ? 2 * g : 2;
        for (int d = below; d > 1; d--) {
            if (above % d == 0 && below % d == 0) {
                above /= d;
                below /= d;
            }
        }
        return part == 0 ? above : below;
    }

    int overlap(int one, int two, int part) {
        if (one < 0 || one > 3 || two < 0 || two > 3 || one == two) return UNKNOWN;
        if (part < 0 || part > 2) return OUTSIDE;
        int first = 0, second = 0, both = 0;
        for (Set<Integer> same : ones()) {
            boolean inOne = listsOf(same).contains(one), inTwo = listsOf(same).contains(two);
            if (inOne) first++;
            if (inTwo) second++;
            if (inOne && inTwo) both++;
        }
        if (part == 0) return both;
        if (both == 0) return NONE;
        return part == 1 ? first * second : both;
    }

    // ---- days

    private static boolean badSpan(int from, int to) {
        return from < 0 || to > 20000 || from > to;
    }

    int feature(int feature, int from, int to) {
        if (feature < 0 || feature > 7) return UNKNOWN;
        if (badSpan(from, to)) return OUTSIDE;
        features[feature] = new int[] {from, to};
        return 1;
    }

    int shows(int card, int feature, int v) {
        if (!there(card) || feature < 0 || feature > 7) return UNKNOWN;
        if (v < 0 || v > 2) return OUTSIDE;
        int was = cards.get(card).shows[feature];
        cards.get(card).shows[feature] = v;
        return was;
    }

    int back(int back, int from, int to) {
        if (back < 0 || back > 4) return UNKNOWN;
        if (badSpan(from, to)) return OUTSIDE;
        backs[back] = new int[] {from, to};
        return 1;
    }

    int later(int a, int b) {
        if (!there(a) || !there(b) || a == b) return UNKNOWN;
        if (laters.size() == 12) return FULL;
        laters.add(new int[] {a, b});
        return laters.size();
    }

    private static boolean in(int day, int[] span) {
        return span[0] <= day && day <= span[1];
    }

    private Settled settle(Set<Integer> among, List<Line> lines) {
        Settled s = new Settled();
        Map<Integer, TreeSet<Integer>> negatives = groups(among, false);
        List<Runnable> bounds = new ArrayList<>();
        for (int c : among) {
            Card card = cards.get(c);
            int[] published = {0, 20000};
            s.published.put(c, published);
            int[] taken = s.taken.computeIfAbsent(negatives.get(c).first(), i -> new int[] {0, 20000});
            bounds.add(() -> within(published, backs[card.back][0], backs[card.back][1]));
            if (card.posted >= 0) bounds.add(() -> within(published, 0, card.posted));
            for (Line line : lines) {
                if (line.days && line.isFor(card)) bounds.add(() -> within(published, line.d, line.e));
            }
            bounds.add(() -> within(published, taken[0], 20000));
            bounds.add(() -> within(taken, 0, published[1]));
            for (int f = 0; f < 8; f++) {
                int[] feature = features[f];
                if (card.shows[f] == 1) bounds.add(() -> within(taken, feature[0], feature[1]));
                if (card.shows[f] == 0) bounds.add(() -> without(taken, feature));
            }
        }
        for (int[] later : laters) {
            if (among.contains(later[0]) && among.contains(later[1])) {
                int[] late = s.published.get(later[0]), early = s.published.get(later[1]);
                bounds.add(() -> within(late, early[0] + 1, 20000));
                bounds.add(() -> within(early, 0, late[1] - 1));
            }
        }
        Collections.shuffle(bounds, order);
        List<int[]> spans = new ArrayList<>(s.taken.values());
        spans.addAll(s.published.values());
        boolean changed = true;
        while (changed && !s.quarrel) {
            long before = sum(spans);
            for (Runnable bound : bounds) {
                bound.run();
                for (int[] span : spans) if (span[0] > span[1]) s.quarrel = true;
                if (s.quarrel) break;
            }
            changed = sum(spans) != before;
        }
        return s;
    }

    private static long sum(List<int[]> spans) {
        long sum = 0;
        for (int[] span : spans) sum += span[0] - span[1];
        return sum;
    }

    private static void within(int[] span, int from, int to) {
        span[0] = Math.max(span[0], from);
        span[1] = Math.min(span[1], to);
    }

    private static void without(int[] span, int[] days) {
        while (span[0] <= span[1] && in(span[0], days)) span[0]++;
        while (span[0] <= span[1] && in(span[1], days)) span[1]--;
    }

    int span(int card, int sort, int what) {
        if (!there(card)) return UNKNOWN;
        if (sort < 0 || sort > 1 || what < 0 || what > 1) return OUTSIDE;
        Settled s = settle(allThere(), catalogue);
        if (s.quarrel) return NONE;
        return sort == 0 ? s.taken.get(negative(card))[what] : s.published.get(card)[what];
    }

    int quarrel() {
        return settle(allThere(), catalogue).quarrel ? 1 : 0;
    }

    int culprit() {
        if (quarrel() == 0) return NONE;
        for (int card : allThere()) {
            TreeSet<Integer> others = allThere();
            others.remove(card);
            if (!settle(others, catalogue).quarrel) return card;
        }
        return NONE;
    }

    // ---- places

    int landmark(int landmark, int cell) {
        if (landmark < 0 || landmark > 7) return UNKNOWN;
        if (cell < 0 || cell > 64) return OUTSIDE;
        landmarks[landmark] = cell == 64 ? null : Integer.valueOf(cell);
        return 1;
    }

    int walls(long cells) {
        walls = cells;
        return 1;
    }

    int view(int card, int landmark) {
        if (!there(card) || landmark < 0 || landmark > 7) return UNKNOWN;
        List<Integer> view = cards.get(card).view;
        if (view.contains(landmark)) return NOT;
        if (view.size() == 5) return FULL;
        view.add(landmark);
        return view.size();
    }

    int unview(int card) {
        if (!there(card)) return UNKNOWN;
        int had = cards.get(card).view.size();
        cards.get(card).view.clear();
        return had;
    }

    /** Whether a CELL's middle lies on the line between the middles of two others. */
    private static boolean between(int cell, int one, int other) {
        if (cell == one || cell == other) return false;
        int ax = one % 8 - cell % 8, ay = one / 8 - cell / 8, bx = other % 8 - cell % 8, by = other / 8 - cell / 8;
        return ax * by == ay * bx && ax * bx + ay * by < 0;
    }

    private static boolean ordered(int cell, int left, int right) {
        int a = left % 8 - cell % 8, b = left / 8 - cell / 8, c = right % 8 - cell % 8, d = right / 8 - cell / 8;
        return a * d - b * c > 0;
    }

    private boolean stoodIn(int cell, List<Integer> view) {
        if (bit(walls, cell % 8, cell / 8)) return false;
        List<Integer> cells = new ArrayList<>();
        for (int landmark : view) {
            Integer at = landmarks[landmark];
            if (at == null || at == cell) return false;
            cells.add(at);
            for (int c = 0; c < 64; c++) if (between(c, cell, at) && bit(walls, c % 8, c / 8)) return false;
        }
        for (int i = 0; i + 1 < cells.size(); i++) if (!ordered(cell, cells.get(i), cells.get(i + 1))) return false;
        return cells.size() < 2 || ordered(cell, cells.get(0), cells.get(cells.size() - 1));
    }

    long stood(int card) {
        long found = 0;
        if (there(card)) {
            for (int cell = 0; cell < 64; cell++) if (stoodIn(cell, cards.get(card).view)) found |= 1L << cell;
        }
        return found;
    }

    int together(int card) {
        if (!there(card)) return UNKNOWN;
        int cells = 0;
        boolean viewed = false;
        for (int c : groups(allThere(), false).get(card)) viewed |= !cards.get(c).view.isEmpty();
        if (!viewed) return 64;
        for (int cell = 0; cell < 64; cell++) {
            boolean all = true;
            for (int c : groups(allThere(), false).get(card)) {
                List<Integer> view = cards.get(c).view;
                if (!view.isEmpty() && !stoodIn(cell, view)) all = false;
            }
            if (all) cells++;
        }
        return cells;
    }

    // ---- catalogues

    int write(long bytes, int n) {
        if (n < 1 || n > 8) return OUTSIDE;
        if (text.length() + n > 160) return FULL;
        for (int i = 0; i < n; i++) text += (char) (bytes >> 8 * i & 255);
        return text.length();
    }

    int erase() {
        int had = text.length();
        text = "";
        return had;
    }

    /** The FAULT of THE TEXT; what is read goes into the LINES given. */
    private int read(List<Line> lines) {
        List<String> tokens = new ArrayList<>();
        List<Integer> places = new ArrayList<>();
        Matcher m = Pattern.compile("[a-z]+|[0-9]+|[^ ]", Pattern.DOTALL).matcher(text);
        while (m.find()) {
            tokens.add(m.group());
            places.add(m.start());
        }
        tokens.add("");
        places.add(text.length());
        String state = "of";
        Line line = new Line();
        for (int i = 0; i < tokens.size(); i++) {
            String t = tokens.get(i);
            int n = t.matches("[0-9]{1,5}") ? Integer.parseInt(t) : -1;
            String next = null;
            switch (state) {
                case "of": if (t.equals("of")) next = "P"; break;
                case "P": if (n >= 0 && n <= 4) { line.publisher = n; next = "from"; } break;
                case "from": if (t.equals("from")) next = "A"; break;
                case "A": if (n >= 1 && n <= 99) { line.a = n; next = "to B"; } break;
                case "to B": if (t.equals("to")) next = "B"; break;
                case "B": if (n >= line.a && n <= 99) { line.b = n; next = "kind"; } break;
                case "kind":
                    line.days = t.equals("day");
                    if (t.equals("day")) next = "D";
                    if (t.equals("back")) next = "K";
                    break;
                case "K": if (n >= 0 && n <= 4) { line.back = n; next = "end"; } break;
                case "D": if (n >= 0 && n <= 20000) { line.d = n; next = "to E"; } break;
                case "to E": if (t.equals("to")) next = "E"; break;
                case "E": if (n >= line.d && n <= 20000) { line.e = n; next = "end"; } break;
                default:
                    lines.add(line);
                    line = new Line();
                    if (t.isEmpty()) return NONE;
                    if (t.equals(";") && lines.size() < 8) next = "of";
            }
            if (next == null) return places.get(i);
            state = next;
        }
        throw new IllegalStateException("a text has an end");
    }

    int fault() {
        return read(new ArrayList<>());
    }

    int catalogue() {
        List<Line> lines = new ArrayList<>();
        if (read(lines) != NONE) return NOT;
        catalogue = lines;
        return lines.size();
    }

    int breaks(int i) {
        if (i < 0 || i >= catalogue.size()) return UNKNOWN;
        Line line = catalogue.get(i);
        Settled s = settle(allThere(), new ArrayList<>());
        if (line.days && s.quarrel) return NOT;
        int bits = 0;
        for (int c : allThere()) {
            if (!line.isFor(cards.get(c))) continue;
            boolean broken;
            if (line.days) {
                int[] span = s.published.get(c);
                broken = true;
                for (int d = line.d; d <= line.e; d++) if (in(d, span)) broken = false;
            } else {
                broken = cards.get(c).back != line.back;
            }
            if (broken) bits |= 1 << c;
        }
        return bits;
    }

    int count(int what) {
        switch (what) {
            case 0: return cards.size();
            case 1: return allThere().size();
            case 2: return new HashSet<>(groups(allThere(), false).values()).size();
            case 3: return ones().size();
            case 4: return day;
            case 5: return text.length();
            case 6: return catalogue.size();
            case 7: return laters.size();
            default: return OUTSIDE;
        }
    }
}
