/** Part 2 of the terms, SERIES, sentence by sentence, at each bound and just beyond it (promises 10 to 14). */
public final class SeriesTermsTest {
    private static final int NONE = -1, UNKNOWN = -2, OUTSIDE = -3;

    /** CARDS of PUBLISHER 0 in LIST 0, all of one PICTURE. */
    private static ViewCards series(int... numbers) {
        ViewCards x = new ViewCards();
        for (int number : numbers) x.card(0, 0, number, 0, 0, 0, -1);
        return x;
    }

    /** CARDS that are ONE if their NUMBERS are the same, each told in the LISTS that stand in its row. */
    private static ViewCards lists(int[]... rows) {
        ViewCards x = new ViewCards();
        for (int i = 0; i < rows.length; i++) {
            for (int list : rows[i]) x.card(list, 0, 1 + i, 0, 0, 0, -1);
        }
        return x;
    }

    private static void seriesIs(String when, ViewCards x, int publisher, int... due) {
        for (int what = 0; what < 5; what++) Due.due(when + ", what " + what, x.series(publisher, what), due[what]);
    }

    // ---- SERIES and GAPS

    private static void numbers() {
        Due.says("SERIES of a PUBLISHER: NUMBERS of its CARDS; 0 how many NUMBERS, 1 least, 2 greatest (NONE without)");
        seriesIs("no CARDS", series(), 0, 0, NONE, NONE, 0, 0);
        seriesIs("CARDS without NUMBER", series(0, 0), 0, 0, NONE, NONE, 0, 0);
        for (int number = 1; number <= 99; number++) seriesIs("NUMBER " + number, series(number), 0, 1, number, number, 0, 0);
        seriesIs("told twice", series(7, 7, 7), 0, 1, 7, 7, 0, 0);
        seriesIs("one has none", series(7, 0, 8), 0, 2, 7, 8, 0, 0);
        seriesIs("from 1 to 99", series(99, 1), 0, 2, 1, 99, 97, 1);
        ViewCards x = new ViewCards();
        for (int publisher = 0; publisher < 5; publisher++) {
            x.card(0, publisher, 10 * publisher + 1, 0, 0, 0, -1);
            x.card(1, publisher, 10 * publisher + 5, 0, 0, 0, -1);
        }
        for (int publisher = 0; publisher < 5; publisher++) {
            seriesIs("PUBLISHER " + publisher, x, publisher, 2, 10 * publisher + 1, 10 * publisher + 5, 3, 1);
        }
        ViewCards ends = series(1, 99);
        ends.card(0, 1, 50, 0, 0, 0, -1);
        for (int i = 0; i < 2; i++) {
            seriesIs("from 1 to 99", ends, 0, 2, 1, 99, 97, 1);
            seriesIs("nothing of the one asked before is left", ends, 1, 1, 50, 50, 0, 0);
            seriesIs("nor of two before", ends, 2, 0, NONE, NONE, 0, 0);
        }
        for (int odd : new int[] {-1, 5}) {
            Due.due("PUBLISHER " + odd, x.series(odd, 0), UNKNOWN);
            Due.due("what " + odd, x.series(0, odd), OUTSIDE);
        }
    }

    private static void missing() {
        Due.says("MISSING are those between the least and the greatest that no CARD has");
        for (int between = 0; between <= 97; between++) {
            int last = 1 + between + 1;
            seriesIs(between + " between 1 and " + last, series(1, last), 0, 2, 1, last, between, between > 0 ? 1 : 0);
            int first = 99 - between - 1;
            seriesIs(between + " between " + first + " and 99", series(99, first), 0, 2, first, 99, between, between > 0 ? 1 : 0);
        }
        int[] all = new int[20];
        for (int i = 0; i < 20; i++) all[i] = 50 + (7 * i) % 20;
        seriesIs("twenty in a row", series(all), 0, 20, 50, 69, 0, 0);
        ViewCards x = series(3, 6);
        x.card(0, 1, 4, 0, 0, 0, -1);
        Due.due("another PUBLISHER's NUMBER is MISSING", x.series(0, 3), 2);
        x.card(0, 0, 5, 0, 0, 0, -1);
        Due.due("now one has it", x.series(0, 3), 1);
    }

    private static void gaps() {
        Due.says("GAPS are runs of them, as long as can be, in order; 100 times its first NUMBER and the last; NONE: not so many");
        int[] odd = new int[20];
        for (int i = 0; i < 20; i++) odd[i] = 1 + 2 * ((7 * i) % 20);
        ViewCards x = series(odd);
        seriesIs("nineteen GAPS", x, 0, 20, 1, 39, 19, 19);
        for (int i = 0; i < 19; i++) Due.due("GAP " + i, x.gap(0, i), 101 * (2 * i + 2));
        Due.due("there are not so many", x.gap(0, 19), NONE);
        Due.due("below 0", x.gap(0, -1), OUTSIDE);
        Due.due("PUBLISHER -1", x.gap(-1, 0), UNKNOWN);
        Due.due("PUBLISHER 5", x.gap(5, 0), UNKNOWN);
        ViewCards ends = series(99, 97, 3, 1);
        Due.due("2 alone", ends.gap(0, 0), 202);
        Due.due("as long as can be", ends.gap(0, 1), 496);
        Due.due("98 alone", ends.gap(0, 2), 9898);
        Due.due("no fourth", ends.gap(0, 3), NONE);
        Due.due("from 2 to 98", series(1, 99).gap(0, 0), 298);
        Due.due("no second", series(1, 99).gap(0, 1), NONE);
        Due.due("none without CARDS", series().gap(0, 0), NONE);
        Due.due("none of one NUMBER", series(50).gap(0, 0), NONE);
        Due.due("none of two in a row", series(50, 51).gap(0, 0), NONE);
        Due.due("not before the least, not behind the greatest", series(50, 52).gap(0, 1), NONE);
        ViewCards other = new ViewCards();
        other.card(0, 4, 1, 0, 0, 0, -1);
        other.card(0, 4, 3, 0, 0, 0, -1);
        Due.due("PUBLISHER 4", other.gap(4, 0), 202);
        Due.due("PUBLISHER 3", other.gap(3, 0), NONE);
    }

    // ---- UNSEEN and IN ALL

    private static void unseenIs(String when, int above, int below, int[]... rows) {
        ViewCards x = lists(rows);
        Due.due("unseen(0), " + when, x.unseen(0), above);
        Due.due("unseen(1), " + when, x.unseen(1), below);
        Due.due("unseen(-1)", x.unseen(-1), OUTSIDE);
        Due.due("unseen(2)", x.unseen(2), OUTSIDE);
    }

    private static void unseen() {
        Due.says("UNSEEN: f f by 2 g, as a fraction; with no g f (f - 1) by 2; in lowest terms");
        int[] once = {0}, onceElsewhere = {3}, twice = {1, 2}, thrice = {0, 2, 3}, always = {0, 1, 2, 3};
        for (int f = 0; f <= 20; f++) {
            int[][] rows = new int[f][];
            for (int i = 0; i < f; i++) rows[i] = i % 2 == 0 ? once : onceElsewhere;
            unseenIs("no g, f " + f, f * (f - 1) / 2, 1, rows);
        }
        for (int g = 1; g <= 10; g++) {
            for (int f = 0; f + 2 * g <= 20; f++) {
                int[][] rows = new int[f + g][];
                for (int i = 0; i < f + g; i++) rows[i] = i < g ? twice : once;
                int common = 2 * g;
                while (f * f % common != 0 || 2 * g % common != 0) common--;
                unseenIs("f " + f + ", g " + g, f * f / common, 2 * g / common, rows);
            }
        }
        unseenIs("SEEN 3 and 4 times is neither", 1, 1, thrice, always, once, once);
        unseenIs("SEEN 3 times is no g", 0, 1, thrice, once);
        unseenIs("each ONE once, though told twice in a LIST", 1, 2, new int[] {0, 1, 0, 1}, once);
        unseenIs("two of one LIST are two", 1, 1, new int[] {0, 0});
    }

    private static void overlapIs(String when, int one, int two, int[] due, int[]... rows) {
        ViewCards x = lists(rows);
        for (int part = 0; part < 3; part++) {
            Due.due("part " + part + ", " + when, x.overlap(one, two, part), due[part]);
            Due.due("part " + part + ", turned, " + when, x.overlap(two, one, part), due[part]);
        }
        Due.due("part -1", x.overlap(one, two, -1), OUTSIDE);
        Due.due("part 3", x.overlap(one, two, 3), OUTSIDE);
        Due.due("one and itself", x.overlap(one, one, 0), UNKNOWN);
    }

    private static void overlap() {
        Due.says("OVERLAP: how many ONE they have both; IN ALL: the one's times the other's, by OVERLAP; none without");
        int[] first = {0}, second = {1}, both = {0, 1}, other = {2}, all = {0, 1, 2, 3};
        overlapIs("no CARDS", 0, 1, new int[] {0, NONE, NONE});
        overlapIs("one each", 0, 1, new int[] {0, NONE, NONE}, first, second);
        overlapIs("one of both", 0, 1, new int[] {1, 1, 1}, both);
        overlapIs("and one each", 0, 1, new int[] {1, 4, 1}, both, first, second);
        overlapIs("two of both, one more", 0, 1, new int[] {2, 6, 2}, both, first, both);
        overlapIs("three of both", 0, 1, new int[] {3, 9, 3}, both, both, both);
        overlapIs("a third LIST counts for nothing", 0, 1, new int[] {1, 1, 1}, both, other, other);
        overlapIs("in all LISTS", 1, 3, new int[] {1, 2, 1}, all, second);
        overlapIs("told twice it is ONE once", 0, 1, new int[] {1, 2, 1}, new int[] {0, 0, 1}, second);
        int[][] most = new int[10][];
        for (int i = 0; i < 10; i++) most[i] = both;
        overlapIs("ten of both", 0, 1, new int[] {10, 100, 10}, most);
        for (int one = 0; one < 4; one++) {
            for (int two = 0; two < 4; two++) {
                if (one != two) overlapIs("LISTS " + one + " and " + two, one, two, new int[] {1, 1, 1}, new int[] {one, two});
            }
        }
        ViewCards x = lists(all);
        for (int odd : new int[] {-1, 4}) {
            Due.due("LIST " + odd, x.overlap(odd, 0, 0), UNKNOWN);
            Due.due("LIST " + odd + " as the other", x.overlap(0, odd, 0), UNKNOWN);
        }
    }

    // ---- PRICE

    /** CARD 0 in so many LISTS, by a GAP or not, with RIVALS or not. */
    private static int price(int base, int seen, boolean isByGap, boolean isRivalled) {
        ViewCards x = new ViewCards();
        for (int list = 0; list < seen; list++) x.card(list, 0, 5, 0, 0, 0, -1);
        if (isByGap) x.card(0, 0, 7, 0, 0, 0, -1);
        if (isRivalled) x.card(1, 0, 5, 0, 0, 0, -1);
        x.set(2, base);
        return x.of(0, 3);
    }

    private static void price() {
        Due.says("PRICE: BASE (1 .. 10000; 100 at first) by SEEN, cut, half as much again (cut), of that a fourth (cut) less");
        Due.due("BASE 100 at first", series(5).of(0, 3), 100);
        for (int base : new int[] {1, 2, 3, 4, 5, 6, 7, 8, 9, 10, 11, 12, 13, 14, 15, 97, 98, 99, 100, 101, 9999, 10000}) {
            for (int seen = 1; seen <= 4; seen++) {
                int bySeen = base / seen, byGap = bySeen + bySeen / 2;
                String when = "BASE " + base + ", SEEN " + seen;
                Due.due(when, price(base, seen, false, false), bySeen);
                Due.due(when + ", by a GAP", price(base, seen, true, false), byGap);
                if (seen > 1) {
                    Due.due(when + ", RIVALS", price(base, seen, false, true), bySeen - bySeen / 4);
                    Due.due(when + ", by a GAP, RIVALS", price(base, seen, true, true), byGap - byGap / 4);
                }
            }
        }
        Due.due("7 by 2 is 3, and half of it 1, and a fourth of 4 is 1", price(7, 2, true, true), 3);
        Due.due("1 by 2 is nothing", price(1, 2, true, true), 0);
        ViewCards x = series(5);
        Due.due("BASE 0", x.set(2, 0), OUTSIDE);
        Due.due("BASE 10001", x.set(2, 10001), OUTSIDE);
        Due.due("it is as it was", x.of(0, 3), 100);
    }

    private static void byAGap() {
        Due.says("if the NUMBER is by a GAP (a NUMBER beside it is MISSING)");
        int[][] series = {{1, 3}, {97, 99}, {1, 99}, {1, 2, 4, 5}, {5, 6, 8}, {5, 7, 8}, {5, 6, 7}, {5, 8, 9, 10, 12}, {1, 2}, {98, 99}, {50}};
        for (int[] numbers : series) {
            ViewCards x = series(numbers);
            for (int i = 0; i < numbers.length; i++) {
                boolean below = i > 0 && numbers[i - 1] < numbers[i] - 1;
                boolean above = i + 1 < numbers.length && numbers[i + 1] > numbers[i] + 1;
                Due.due("NUMBER " + numbers[i] + " of " + numbers.length, x.of(i, 3), below || above ? 150 : 100);
            }
        }
        ViewCards x = series(2, 4, 0);
        Due.due("without NUMBER", x.of(2, 3), 100);
        ViewCards first = series(1, 3, 0);
        Due.due("without NUMBER, 2 is MISSING", first.of(2, 3), 100);
        x.card(0, 1, 4, 0, 0, 0, -1);
        Due.due("MISSING for another PUBLISHER", x.of(3, 3), 100);
        x.card(0, 1, 3, 0, 0, 0, -1);
        Due.due("another PUBLISHER's fills no GAP", x.of(0, 3), 150);
        x.days(1);
        x.card(0, 0, 3, 0, 0, 0, -1);
        Due.due("filled", x.of(0, 3), 100);
        x.set(1, 0);
        Due.due("not yet THERE", x.of(0, 3), 150);
    }

    private static void rivals() {
        Due.says("of that a fourth (cut) less, if there are RIVALS");
        ViewCards x = series(5);
        x.card(1, 0, 5, 0, 0, 0, -1);
        Due.due("one that MATCHES is no RIVAL", x.of(0, 3), 50);
        x.card(1, 0, 5, 0, 0, 0, -1);
        Due.due("two are", x.of(0, 3), 38);
        Due.due("they have none", x.of(1, 3), 50);
        x.card(2, 0, 5, 0, 0, 0, -1);
        x.card(2, 0, 5, 0, 0, 0, -1);
        Due.due("RIVALS of two LISTS are no more", x.of(0, 3), 25);
        Due.due("by 3 it is 33, and 8 less", x.of(1, 3), 25);
    }

    public static void main(String[] args) {
        numbers();
        missing();
        gaps();
        unseen();
        overlap();
        price();
        byAGap();
        rivals();
        Due.end();
    }
}
