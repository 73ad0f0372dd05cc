/** Promises 15 to 21: days of taking and publishing, and the QUARREL. */
public final class DaysTest {
    private static final int NONE = -1, UNKNOWN = -2, OUTSIDE = -3, FULL = -5;
    private static final int LEAST = Integer.MIN_VALUE, MOST = Integer.MAX_VALUE;
    private static final int TAKEN = 0, PUBLISHED = 1;
    /** No two of these are LIKE. */
    private static final long[] PICTURES = {
        0, -1, 0x5555555555555555L, 0xff00ff00ff00ff00L, 0x00ffff0000ffff00L, 0x3333333333333333L, 0x3333cccc3333ccccL,
        0x0f0f0f0f0f0f0f0fL};

    /** So many CARDS, each with a NEGATIVE of its own. */
    private static ViewCards cards(int many) {
        ViewCards x = new ViewCards();
        for (int i = 0; i < many; i++) x.card(0, i % 5, i, 0, PICTURES[i], 0, -1);
        Due.due("each of a NEGATIVE of its own", x.count(2), many);
        return x;
    }

    private static void spanIs(ViewCards x, String when, int card, int sort, int from, int to) {
        Due.due("first day, " + when, x.span(card, sort, 0), from);
        Due.due("last day, " + when, x.span(card, sort, 1), to);
    }

    private static void quarrels(ViewCards x, String when, int culprit) {
        Due.due("quarrel(), " + when, x.quarrel(), 1);
        Due.due("culprit(), " + when, x.culprit(), culprit);
        spanIs(x, when, 0, TAKEN, NONE, NONE);
        spanIs(x, when, 0, PUBLISHED, NONE, NONE);
    }

    private static void agrees(ViewCards x, String when) {
        Due.due("quarrel(), " + when, x.quarrel(), 0);
        Due.due("culprit(), " + when, x.culprit(), NONE);
    }

    private static void feature() {
        ViewCards x = cards(2);
        for (int odd : new int[] {-1, 8, LEAST, MOST}) Due.due("feature(" + odd + ")", x.feature(odd, 0, 0), UNKNOWN);
        int[][] odd = {{-1, 5}, {5, 4}, {0, 20001}, {20001, 20001}, {LEAST, MOST}, {MOST, LEAST}, {0, -1}};
        for (int[] span : odd) {
            Due.due("feature from " + span[0] + " to " + span[1], x.feature(0, span[0], span[1]), OUTSIDE);
            Due.due("UNKNOWN ahead of OUTSIDE", x.feature(8, span[0], span[1]), UNKNOWN);
        }
        for (int f = 0; f < 8; f++) x.shows(0, f, 1);
        spanIs(x, "all the time at first", 0, TAKEN, 0, 20000);
        Due.due("from the first day on", x.feature(0, 0, 20000), 1);
        Due.due("feature 7", x.feature(7, 9, 9), 1);
        spanIs(x, "one day", 0, TAKEN, 9, 9);
        Due.due("told again", x.feature(7, 20000, 20000), 1);
        spanIs(x, "the last day", 0, TAKEN, 20000, 20000);
        spanIs(x, "it is PUBLISHED then", 0, PUBLISHED, 20000, 20000);
        spanIs(x, "who shows none", 1, TAKEN, 0, 20000);
        x.feature(7, 100, 300);
        x.feature(6, 200, 400);
        x.feature(5, 0, 250);
        spanIs(x, "in all spans", 0, TAKEN, 200, 250);
        Due.due("refused", x.feature(7, 301, 300), OUTSIDE);
        spanIs(x, "refused, it is as it was", 0, TAKEN, 200, 250);
    }

    private static void shows() {
        ViewCards x = cards(2);
        x.feature(3, 10, 20);
        Due.due("not known at first", x.shows(0, 3, 1), 2);
        Due.due("shown", x.shows(0, 3, 0), 1);
        Due.due("not shown", x.shows(0, 3, 0), 0);
        Due.due("the same again", x.shows(0, 3, 2), 0);
        Due.due("not known", x.shows(0, 3, 2), 2);
        Due.due("another FEATURE", x.shows(0, 7, 1), 2);
        Due.due("another CARD", x.shows(1, 7, 1), 2);
        for (int odd : new int[] {-1, 8, LEAST, MOST}) {
            Due.due("shows(" + odd + ", 0, 0)", x.shows(odd, 0, 0), UNKNOWN);
            Due.due("shows(0, " + odd + ", 0)", x.shows(0, odd, 0), UNKNOWN);
            Due.due("UNKNOWN ahead of OUTSIDE", x.shows(0, odd, 3), UNKNOWN);
        }
        for (int odd : new int[] {-1, 3, LEAST, MOST}) Due.due("shows(0, 7, " + odd + ")", x.shows(0, 7, odd), OUTSIDE);
        Due.due("refused, it is as it was", x.shows(0, 7, 1), 1);
        x.days(1);
        x.card(0, 0, 0, 0, 7, 0, -1);
        x.set(1, 0);
        Due.due("not THERE", x.shows(2, 0, 0), UNKNOWN);
    }

    private static void hidden() {
        ViewCards x = cards(1);
        x.feature(0, 100, 200);
        x.shows(0, 0, 1);
        x.shows(0, 1, 0);
        int[][] features = {
            {0, 99, 100, 200}, {0, 100, 101, 200}, {100, 100, 101, 200}, {101, 199, 100, 200}, {50, 150, 151, 200},
            {200, 200, 100, 199}, {199, 20000, 100, 198}, {201, 20000, 100, 200}, {150, 200, 100, 149}, {0, 199, 200, 200}};
        for (int[] f : features) {
            x.feature(1, f[0], f[1]);
            spanIs(x, "not shown from " + f[0] + " to " + f[1], 0, TAKEN, f[2], f[3]);
        }
        x.feature(1, 100, 200);
        quarrels(x, "all days cut", 0);
        x.feature(1, 0, 20000);
        quarrels(x, "never", 0);
        // One cut lays the next one open, in whichever order they are told.
        x.feature(1, 120, 139);
        x.feature(2, 110, 119);
        x.feature(3, 90, 109);
        x.shows(0, 2, 0);
        spanIs(x, "nothing at an end", 0, TAKEN, 100, 200);
        x.shows(0, 3, 0);
        spanIs(x, "one behind the other", 0, TAKEN, 140, 200);
        x.feature(4, 160, 170);
        x.feature(5, 171, 199);
        x.feature(6, 200, 20000);
        for (int f = 4; f < 7; f++) x.shows(0, f, 0);
        spanIs(x, "from the other end too", 0, TAKEN, 140, 159);
        x.feature(7, 0, 158);
        x.shows(0, 7, 0);
        spanIs(x, "but for one day", 0, TAKEN, 159, 159);
    }

    private static void negativesSpan() {
        ViewCards x = new ViewCards();
        x.card(0, 0, 1, 0, PICTURES[2], 0, -1);
        x.card(1, 1, 2, 1, PICTURES[2], 0, 500);
        x.card(2, 2, 3, 2, PICTURES[0], 0, -1);
        x.feature(0, 100, 20000);
        x.feature(1, 0, 400);
        x.shows(0, 0, 1);
        spanIs(x, "POSTED bounds TAKEN", 0, TAKEN, 100, 500);
        spanIs(x, "TAKEN bounds PUBLISHED", 1, PUBLISHED, 100, 500);
        spanIs(x, "of this CARD alone", 0, PUBLISHED, 100, 20000);
        x.shows(1, 1, 0);
        spanIs(x, "not shown by the other", 0, TAKEN, 401, 500);
        spanIs(x, "another NEGATIVE", 2, TAKEN, 0, 20000);
        x.shows(0, 1, 1);
        quarrels(x, "shown by one, not by the other, of one NEGATIVE", 0);
        x.set(0, 0);
        x.shows(0, 1, 2);
        x.shows(1, 1, 2);
        x.back(1, 0, 99);
        quarrels(x, "PUBLISHED before TAKEN", 0);
        x.back(1, 0, 100);
        agrees(x, "PUBLISHED on the day that it was TAKEN");
        spanIs(x, "one day is left", 0, TAKEN, 100, 100);
    }

    private static void back() {
        ViewCards x = cards(1);
        x.card(0, 0, 1, 4, PICTURES[1], 0, 250);
        for (int odd : new int[] {-1, 5, LEAST, MOST}) Due.due("back(" + odd + ")", x.back(odd, 0, 0), UNKNOWN);
        int[][] odd = {{-1, 5}, {5, 4}, {0, 20001}, {20001, 20001}, {LEAST, MOST}, {MOST, LEAST}, {0, -1}};
        for (int[] span : odd) {
            Due.due("back from " + span[0] + " to " + span[1], x.back(0, span[0], span[1]), OUTSIDE);
            Due.due("UNKNOWN ahead of OUTSIDE", x.back(5, span[0], span[1]), UNKNOWN);
        }
        spanIs(x, "all the time at first", 0, PUBLISHED, 0, 20000);
        spanIs(x, "but POSTED", 1, PUBLISHED, 0, 250);
        Due.due("BACK 4", x.back(4, 200, 300), 1);
        spanIs(x, "BACK and POSTED", 1, PUBLISHED, 200, 250);
        spanIs(x, "TAKEN before", 1, TAKEN, 0, 250);
        spanIs(x, "another BACK", 0, PUBLISHED, 0, 20000);
        x.back(4, 250, 250);
        spanIs(x, "POSTED on the first day of its BACK", 1, PUBLISHED, 250, 250);
        x.back(4, 251, 20000);
        quarrels(x, "POSTED before its BACK", 1);
        x.card(0, 0, 1, 4, PICTURES[2], 0, 0);
        quarrels(x, "two of that kind", NONE);
        x.back(4, 0, 0);
        agrees(x, "POSTED on day 0");
        spanIs(x, "POSTED on day 0", 2, PUBLISHED, 0, 0);
    }

    private static void later() {
        ViewCards x = cards(3);
        for (int odd : new int[] {-1, 3, LEAST, MOST}) {
            Due.due("later(" + odd + ", 0)", x.later(odd, 0), UNKNOWN);
            Due.due("later(0, " + odd + ")", x.later(0, odd), UNKNOWN);
        }
        for (int card = 0; card < 3; card++) Due.due("one and itself", x.later(card, card), UNKNOWN);
        Due.due("none is told", x.count(7), 0);
        x.back(0, 100, 200);
        Due.due("one", x.later(0, 1), 1);
        spanIs(x, "the later", 0, PUBLISHED, 101, 200);
        spanIs(x, "the earlier", 1, PUBLISHED, 100, 199);
        Due.due("two", x.later(1, 2), 2);
        spanIs(x, "two behind", 0, PUBLISHED, 102, 200);
        spanIs(x, "between", 1, PUBLISHED, 101, 199);
        spanIs(x, "two before", 2, PUBLISHED, 100, 198);
        spanIs(x, "TAKEN before", 2, TAKEN, 0, 198);
        x.back(0, 100, 102);
        agrees(x, "just three days");
        x.back(0, 100, 101);
        quarrels(x, "too few days", 0);
        x.back(0, 0, 20000);
        Due.due("told again it counts", x.later(1, 2), 3);
        Due.due("a ring", x.later(2, 0), 4);
        quarrels(x, "a ring", 0);
        for (int i = 5; i <= 12; i++) Due.due("LATER " + i, x.later(0, 1), i);
        Due.due("a 13th", x.later(0, 1), FULL);
        Due.due("UNKNOWN ahead of FULL", x.later(1, 1), UNKNOWN);
        Due.due("12 are told", x.count(7), 12);
    }

    private static void laterOfThoseThere() {
        ViewCards x = cards(2);
        x.days(5);
        x.card(0, 0, 0, 0, PICTURES[2], 0, 77);
        x.later(2, 1);
        x.later(1, 0);
        spanIs(x, "all THERE", 0, PUBLISHED, 0, 75);
        spanIs(x, "all THERE", 2, PUBLISHED, 2, 77);
        x.set(1, 4);
        spanIs(x, "LATER between CARDS that are THERE", 1, PUBLISHED, 1, 20000);
        Due.due("not THERE", x.span(2, PUBLISHED, 0), UNKNOWN);
        Due.due("later of one not THERE", x.later(2, 0), UNKNOWN);
        Due.due("both are told", x.count(7), 2);
    }

    private static void longestChain() {
        ViewCards x = new ViewCards();
        for (int i = 0; i < 13; i++) x.card(0, 0, 0, 0, i == 0 ? 0 : -1, 0, -1);
        for (int f = 0; f < 8; f++) {
            x.feature(7 - f, 10 * f, 10 * f + 9);
            x.shows(0, 7 - f, 0);
        }
        for (int i = 12; i > 0; i--) x.later(i, i - 1);
        agrees(x, "twelve LATER and eight FEATURES");
        spanIs(x, "behind all", 12, PUBLISHED, 92, 20000);
        spanIs(x, "before all", 0, TAKEN, 80, 19988);
        for (int f = 0; f < 8; f++) x.feature(f, 19990 - 10 * f - 19, 19990 - 10 * f - 10 + 18);
        spanIs(x, "from the other end", 0, TAKEN, 0, 19900);
    }

    private static void span() {
        ViewCards x = cards(1);
        for (int odd : new int[] {-1, 2, LEAST, MOST}) {
            Due.due("span(" + odd + ", 0, 0)", x.span(odd, 0, 0), UNKNOWN);
            Due.due("span(0, " + odd + ", 0)", x.span(0, odd, 0), OUTSIDE);
            Due.due("span(0, 0, " + odd + ")", x.span(0, 0, odd), OUTSIDE);
            Due.due("UNKNOWN ahead of OUTSIDE", x.span(1, odd, odd), UNKNOWN);
        }
        Due.tell(x, "of 0 from 1 to 3 day 30 to 60;of 0 from 2 to 9 day 50 to 90;of 1 from 2 to 2 day 5 to 5;"
                + "of 0 from 2 to 2 back 1");
        Due.due("catalogue()", x.catalogue(), 4);
        x.card(0, 0, 1, 0, PICTURES[1], 0, -1);
        x.card(0, 0, 2, 0, PICTURES[2], 0, -1);
        x.card(0, 0, 9, 0, PICTURES[3], 0, -1);
        x.card(0, 0, 10, 0, PICTURES[4], 0, -1);
        spanIs(x, "without NUMBER no LINE is for it", 0, PUBLISHED, 0, 20000);
        spanIs(x, "one LINE", 1, PUBLISHED, 30, 60);
        spanIs(x, "two LINES", 2, PUBLISHED, 50, 60);
        spanIs(x, "the last NUMBER of a LINE", 3, PUBLISHED, 50, 90);
        spanIs(x, "no LINE", 4, PUBLISHED, 0, 20000);
        spanIs(x, "TAKEN before", 2, TAKEN, 0, 60);
        x.back(0, 61, 70);
        quarrels(x, "LINES against a BACK", NONE);
        Due.due("OUTSIDE in a QUARREL", x.span(0, 0, 2), OUTSIDE);
        Due.due("UNKNOWN in a QUARREL", x.span(5, 0, 0), UNKNOWN);
    }

    private static void culprit() {
        ViewCards x = new ViewCards();
        long other = PICTURES[2] ^ 15L << 35;
        x.card(0, 0, 1, 0, PICTURES[2], 0, -1);
        x.card(0, 0, 1, 0, other, 0, 100);
        x.set(0, 2);
        x.feature(0, 200, 300);
        x.shows(0, 0, 1);
        agrees(x, "two NEGATIVES");
        x.days(1);
        x.card(0, 0, 1, 0, PICTURES[2] ^ 3L << 35, 0, -1);
        Due.due("now one NEGATIVE", x.negative(1), 0);
        quarrels(x, "the least of three without which there is none", 0);
        x.shows(0, 0, 2);
        x.shows(1, 0, 1);
        quarrels(x, "one alone quarrels", 1);
        x.shows(1, 0, 2);
        x.card(0, 0, 1, 1, PICTURES[2], 0, -1);
        x.card(0, 0, 1, 1, PICTURES[2], 0, -1);
        x.shows(0, 0, 1);
        x.shows(3, 0, 1);
        x.shows(4, 0, 1);
        quarrels(x, "without CARD 1 there is none", 1);
        x.card(0, 0, 1, 1, other, 0, 150);
        quarrels(x, "only the link between them", 2);
        x.set(1, 0);
        agrees(x, "as of the day before");
    }

    private static void culpritBehindAnotherNegative() {
        ViewCards x = new ViewCards();
        x.card(0, 0, 1, 0, PICTURES[1], 0, -1);
        x.card(0, 0, 1, 0, PICTURES[2], 0, -1);
        x.card(0, 0, 1, 0, PICTURES[2], 0, -1);
        x.card(0, 0, 1, 0, PICTURES[2] ^ 15L << 35, 0, 100);
        x.card(0, 0, 1, 0, PICTURES[2] ^ 15L << 35, 0, 100);
        x.days(1);
        x.card(0, 0, 1, 0, PICTURES[2] ^ 3L << 35, 0, -1);
        x.feature(0, 200, 300);
        x.shows(1, 0, 1);
        x.shows(2, 0, 1);
        quarrels(x, "the link is the culprit", 5);
        x.set(1, 0);
        agrees(x, "the link is not THERE");
        spanIs(x, "the one NEGATIVE", 2, TAKEN, 200, 300);
        spanIs(x, "the other NEGATIVE", 4, TAKEN, 0, 100);
    }

    private static void spansByLinesOfTheCatalogueAlone() {
        ViewCards x = cards(1);
        x.card(0, 0, 1, 0, PICTURES[1], 0, -1);
        StringBuilder text = new StringBuilder("of0from1to1day1to90");
        for (int i = 2; i <= 8; i++) text.append(";of0from1to1day").append(i).append("to90");
        Due.tell(x, text.toString());
        Due.due("eight LINES", x.catalogue(), 8);
        spanIs(x, "by eight LINES", 1, PUBLISHED, 8, 90);
        Due.due("and again", x.catalogue(), 8);
        x.erase();
        Due.tell(x, "of0from1to1day5to95");
        spanIs(x, "THE TEXT is not yet THE CATALOGUE", 1, PUBLISHED, 8, 90);
        x.fault();
        spanIs(x, "nor is it, being read", 1, PUBLISHED, 8, 90);
        Due.due("one LINE", x.catalogue(), 1);
        spanIs(x, "by one LINE, those before are gone", 1, PUBLISHED, 5, 95);
        Due.due("one LINE again", x.catalogue(), 1);
        spanIs(x, "by one LINE still", 1, PUBLISHED, 5, 95);
    }

    public static void main(String[] args) {
        feature();
        shows();
        hidden();
        negativesSpan();
        back();
        later();
        laterOfThoseThere();
        longestChain();
        span();
        culprit();
        culpritBehindAnotherNegative();
        spansByLinesOfTheCatalogueAlone();
        Due.end();
    }
}
