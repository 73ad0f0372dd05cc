/** Part 3 of the terms, the days, sentence by sentence, at each bound and just beyond it (promises 15 to 21). */
public final class DaysTermsTest {
    private static final int NONE = -1, UNKNOWN = -2, OUTSIDE = -3, FULL = -5;
    private static final int TAKEN = 0, PUBLISHED = 1, HIDDEN = 0, SHOWN = 1, NOT_KNOWN = 2;
    private static final long TOWN = World.TOWN;
    /** LIKE TOWN, or LIKE LINK alone, or LIKE none of them. */
    private static final long LINK = TOWN ^ 3L << 35, END = TOWN ^ 15L << 35, SEA = 0xff00ff00ff00ff00L;

    /** CARDS of LIST 0 without NUMBER, each with the BACK 0 and no day POSTED. */
    private static ViewCards cards(long... pictures) {
        ViewCards x = new ViewCards();
        for (long picture : pictures) x.card(0, 0, 0, 0, picture, 0, -1);
        return x;
    }

    private static void posted(ViewCards x, long picture, int back, int day) {
        x.card(0, 0, 0, back, picture, 0, day);
    }

    private static void spanIs(String when, ViewCards x, int card, int sort, int from, int to) {
        Due.due(when + ": first day", x.span(card, sort, 0), from);
        Due.due(when + ": last day", x.span(card, sort, 1), to);
    }

    private static void quarrels(String when, ViewCards x, boolean due) {
        Due.due(when + ": QUARREL", x.quarrel(), due ? 1 : 0);
        for (int i = 0; i < 4; i++) Due.due(when + ": span", x.span(0, i / 2, i % 2) == NONE ? 1 : 0, due ? 1 : 0);
    }

    // ---- FEATURES

    private static void featuresAtFirst() {
        Due.says("FEATURES 0 .. 7 stand from a day to a day (0 .. 20000; all the time at first)");
        for (int f = 0; f < 8; f++) {
            ViewCards x = cards(TOWN);
            Due.due("FEATURE " + f + " is not known at first", x.shows(0, f, SHOWN), NOT_KNOWN);
            spanIs("shown, all the time", x, 0, TAKEN, 0, 20000);
            Due.due("it was shown", x.shows(0, f, HIDDEN), SHOWN);
            quarrels("not shown, all the time", x, true);
            Due.due("told", x.feature(f, 1, 19999), 1);
            quarrels("not shown, but for the first and the last day", x, false);
            Due.due("told", x.feature(f, 0, 19999), 1);
            spanIs("not shown, but for the last day", x, 0, TAKEN, 20000, 20000);
            Due.due("told", x.feature(f, 1, 20000), 1);
            spanIs("not shown, but for the first day", x, 0, TAKEN, 0, 0);
            for (int other = 0; other < 8; other++) {
                if (other != f) Due.due("another is not known", x.shows(0, other, NOT_KNOWN), NOT_KNOWN);
            }
        }
        ViewCards x = cards(TOWN);
        for (int odd : new int[] {-1, 8}) {
            Due.due("FEATURE " + odd, x.feature(odd, 1, 2), UNKNOWN);
            Due.due("a CARD shows FEATURE " + odd, x.shows(0, odd, SHOWN), UNKNOWN);
        }
    }

    private static void daysOfFeaturesAndBacks() {
        Due.says("from a day to a day (0 .. 20000)");
        int[] days = {-1, 0, 1, 10000, 19999, 20000, 20001};
        for (int from : days) {
            for (int to : days) {
                boolean isSpan = from >= 0 && to <= 20000 && from <= to;
                ViewCards x = cards(TOWN);
                x.shows(0, 3, SHOWN);
                Due.due("feature from " + from + " to " + to, x.feature(3, from, to), isSpan ? 1 : OUTSIDE);
                spanIs("TAKEN", x, 0, TAKEN, isSpan ? from : 0, isSpan ? to : 20000);
                ViewCards y = cards(TOWN);
                Due.due("back from " + from + " to " + to, y.back(0, from, to), isSpan ? 1 : OUTSIDE);
                spanIs("PUBLISHED", y, 0, PUBLISHED, isSpan ? from : 0, isSpan ? to : 20000);
            }
        }
    }

    private static void showing() {
        Due.says("A CARD shows one, does not, or it is not known (at first)");
        ViewCards x = cards(TOWN, SEA);
        x.feature(0, 100, 20000);
        for (int was = 0; was <= 2; was++) {
            for (int v = 0; v <= 2; v++) {
                x.shows(0, 0, was);
                Due.due("from " + was + " to " + v, x.shows(0, 0, v), was);
                spanIs("by " + v, x, 0, TAKEN, v == SHOWN ? 100 : 0, v == HIDDEN ? 99 : 20000);
            }
        }
        x.shows(0, 0, SHOWN);
        for (int odd : new int[] {-1, 3}) Due.due("shows " + odd, x.shows(0, 0, odd), OUTSIDE);
        Due.due("it is shown still", x.shows(0, 0, SHOWN), SHOWN);
        Due.due("not known of the other CARD", x.shows(1, 0, NOT_KNOWN), NOT_KNOWN);
        ViewCards all = new ViewCards();
        for (int i = 0; i < 20; i++) all.card(0, 0, 0, 0, 0, 0, -1);
        for (int card = 0; card < 20; card++) {
            for (int f = 0; f < 8; f++) Due.due("CARD " + card + ", FEATURE " + f, all.shows(card, f, f % 3), NOT_KNOWN);
        }
        for (int card = 0; card < 20; card++) {
            for (int f = 0; f < 8; f++) Due.due("CARD " + card + ", FEATURE " + f, all.shows(card, f, NOT_KNOWN), f % 3);
        }
    }

    private static void takenInAllSpans() {
        Due.says("TAKEN of a NEGATIVE is in all spans of FEATURES that some CARD of it shows (0 .. 20000 besides)");
        ViewCards x = cards(TOWN, LINK, SEA);
        spanIs("none is shown", x, 0, TAKEN, 0, 20000);
        for (int f = 0; f < 8; f++) {
            x.feature(f, 100 + f, 900 - f);
            x.shows(f % 2, f, SHOWN);
            for (int card = 0; card < 2; card++) spanIs("FEATURES up to " + f, x, card, TAKEN, 100 + f, 900 - f);
        }
        spanIs("of another NEGATIVE", x, 2, TAKEN, 0, 20000);
        for (int f = 0; f < 6; f++) x.shows(f % 2, f, NOT_KNOWN);
        x.feature(6, 106, 899);
        x.feature(7, 899, 1000);
        spanIs("one day is in both", x, 0, TAKEN, 899, 899);
        quarrels("one day is in both", x, false);
        x.feature(6, 106, 898);
        quarrels("none is in both", x, true);
        x.set(0, 1);
        quarrels("of two NEGATIVES", x, false);
        spanIs("the one", x, 0, TAKEN, 106, 898);
        spanIs("the other", x, 1, TAKEN, 899, 1000);
    }

    private static void hidden() {
        Due.says("does not show: TAKEN is not in its span; where that cuts all days from one end on, they go, else it is left");
        for (int from = 7; from <= 23; from++) {
            for (int to = from; to <= 23; to++) {
                int first = 21, last = 9;
                for (int day = 10; day <= 20; day++) {
                    if (day < from || day > to) {
                        first = Math.min(first, day);
                        last = Math.max(last, day);
                    }
                }
                ViewCards x = cards(TOWN, LINK);
                x.feature(0, 10, 20);
                x.feature(1, from, to);
                x.shows(0, 0, SHOWN);
                x.shows(1, 1, HIDDEN);
                String when = "not from " + from + " to " + to;
                Due.due(when + ": QUARREL", x.quarrel(), first > last ? 1 : 0);
                spanIs(when, x, 0, TAKEN, first > last ? NONE : first, first > last ? NONE : last);
            }
        }
    }

    private static void hiddenOneBehindAnother() {
        Due.says("(as SPANS are then) .. one after the other, till nothing changes");
        for (int turn = 0; turn < 2; turn++) {
            ViewCards x = cards(TOWN);
            for (int i = 0; i < 8; i++) {
                int f = turn == 0 ? i : 7 - i;
                x.feature(f, 10 * i, 10 * i + 9);
                x.shows(0, f, HIDDEN);
            }
            spanIs("eight, each laid open by the one before", x, 0, TAKEN, 80, 20000);
            for (int i = 0; i < 8; i++) {
                int f = turn == 0 ? i : 7 - i;
                x.feature(f, 20000 - 10 * i - 9, 20000 - 10 * i);
            }
            spanIs("from the other end", x, 0, TAKEN, 0, 19920);
            x.feature(turn == 0 ? 0 : 7, 19992, 20000);
            spanIs("one day between them is left", x, 0, TAKEN, 0, 19991);
        }
        ViewCards x = cards(TOWN);
        posted(x, LINK, 0, 500);
        x.feature(0, 400, 450);
        x.shows(0, 0, HIDDEN);
        spanIs("in the middle it is left", x, 0, TAKEN, 0, 500);
        x.back(1, 0, 449);
        posted(x, LINK, 1, -1);
        spanIs("laid open by PUBLISHED", x, 0, TAKEN, 0, 399);
        spanIs("PUBLISHED is as it was", x, 2, PUBLISHED, 0, 449);
    }

    // ---- PUBLISHED

    private static void publishedByBack() {
        Due.says("BACKS 0 .. 4 are used from a day to a day (all the time at first); PUBLISHED is in the span of its BACK");
        for (int back = 0; back < 5; back++) {
            ViewCards x = cards();
            posted(x, TOWN, back, -1);
            posted(x, SEA, (back + 1) % 5, -1);
            spanIs("all the time at first", x, 0, PUBLISHED, 0, 20000);
            Due.due("back " + back, x.back(back, 300, 700), 1);
            spanIs("BACK " + back, x, 0, PUBLISHED, 300, 700);
            spanIs("TAKEN on its last day or before", x, 0, TAKEN, 0, 700);
            spanIs("another BACK", x, 1, PUBLISHED, 0, 20000);
        }
        for (int odd : new int[] {-1, 5}) Due.due("back " + odd, cards(TOWN).back(odd, 1, 2), UNKNOWN);
    }

    private static void publishedByPosted() {
        Due.says("on the day POSTED or before");
        for (int day : new int[] {0, 299, 300, 301, 699, 700, 701, 20000}) {
            ViewCards x = cards();
            posted(x, TOWN, 0, day);
            spanIs("POSTED " + day, x, 0, PUBLISHED, 0, day);
            spanIs("TAKEN on that day or before", x, 0, TAKEN, 0, day);
            x.back(0, 300, 700);
            boolean isQuarrel = day < 300;
            quarrels("BACK from 300, POSTED " + day, x, isQuarrel);
            spanIs("BACK and POSTED", x, 0, PUBLISHED, isQuarrel ? NONE : 300, isQuarrel ? NONE : Math.min(day, 700));
        }
    }

    private static void publishedByLines() {
        Due.says("in those of catalogue's lines for it");
        for (int number = 0; number <= 7; number++) {
            for (int publisher = 0; publisher < 2; publisher++) {
                ViewCards x = new ViewCards();
                x.card(0, publisher, number, 0, TOWN, 0, -1);
                Due.tell(x, "of 1 from 2 to 5 day 40 to 90;of 1 from 4 to 6 day 30 to 80;of 1 from 1 to 7 back 3");
                spanIs("THE TEXT is no CATALOGUE", x, 0, PUBLISHED, 0, 20000);
                x.catalogue();
                boolean isFirst = publisher == 1 && number >= 2 && number <= 5;
                boolean isSecond = publisher == 1 && number >= 4 && number <= 6;
                int from = isFirst ? 40 : isSecond ? 30 : 0, to = isSecond ? 80 : isFirst ? 90 : 20000;
                spanIs("PUBLISHER " + publisher + ", NUMBER " + number, x, 0, PUBLISHED, from, to);
                spanIs("TAKEN on its last day or before", x, 0, TAKEN, 0, to);
                x.back(0, 91, 95);
                quarrels("a BACK behind the LINES", x, isFirst || isSecond);
            }
        }
    }

    private static void publishedNotBeforeTaken() {
        Due.says("not before TAKEN of its NEGATIVE");
        ViewCards x = cards(TOWN, LINK, END, SEA);
        x.feature(0, 500, 600);
        x.shows(2, 0, SHOWN);
        for (int card = 0; card < 3; card++) spanIs("CARD " + card + " of the NEGATIVE", x, card, PUBLISHED, 500, 20000);
        spanIs("of another NEGATIVE", x, 3, PUBLISHED, 0, 20000);
        x.back(1, 0, 550);
        posted(x, LINK, 1, -1);
        for (int card = 0; card < 3; card++) spanIs("TAKEN before all are PUBLISHED, CARD " + card, x, card, TAKEN, 500, 550);
        spanIs("PUBLISHED of the others is as it was", x, 0, PUBLISHED, 500, 20000);
        x.back(1, 0, 500);
        spanIs("on the same day", x, 4, PUBLISHED, 500, 500);
        x.back(1, 0, 499);
        quarrels("a day before", x, true);
    }

    // ---- LATER

    private static void later() {
        Due.says("LATER: CARD a was published behind CARD b (a day at least)");
        ViewCards x = cards(TOWN, SEA);
        x.back(0, 100, 102);
        Due.due("one", x.later(0, 1), 1);
        spanIs("the later one", x, 0, PUBLISHED, 101, 102);
        spanIs("the one before", x, 1, PUBLISHED, 100, 101);
        spanIs("TAKEN of the one before", x, 1, TAKEN, 0, 101);
        spanIs("TAKEN of the later one", x, 0, TAKEN, 0, 102);
        x.back(0, 100, 101);
        spanIs("a day is enough", x, 0, PUBLISHED, 101, 101);
        x.back(0, 100, 100);
        quarrels("on one day they can't be", x, true);
        x.back(0, 20000, 20000);
        quarrels("behind the last day there is none", x, true);
        x.back(0, 0, 0);
        quarrels("before the first day there is none", x, true);
        x.back(0, 0, 20000);
        Due.due("the other way round", x.later(1, 0), 2);
        quarrels("a ring of two", x, true);
        for (int card = 0; card < 2; card++) Due.due("one and itself", x.later(card, card), UNKNOWN);
        Due.due("two are told", x.count(7), 2);
    }

    private static void twelveLater() {
        Due.says("LATER (12 at most): how many such are told; FULL");
        ViewCards x = new ViewCards();
        for (int i = 0; i < 14; i++) x.card(0, 0, 0, 0, i % 2 == 0 ? TOWN : SEA, 0, -1);
        for (int i = 1; i <= 12; i++) {
            Due.due("LATER " + i, x.later(i, i - 1), i);
            Due.due("so many", x.count(7), i);
            spanIs("the last of them", x, i, PUBLISHED, i, 20000);
            spanIs("the first of them", x, 0, PUBLISHED, 0, 20000 - i);
        }
        Due.due("the 13th", x.later(13, 12), FULL);
        Due.due("12 stay", x.count(7), 12);
        spanIs("it counts for nothing", x, 13, PUBLISHED, 0, 20000);
        x.back(0, 100, 112);
        for (int i = 0; i <= 12; i++) spanIs("just 13 days", x, i, PUBLISHED, 100 + i, 100 + i);
        quarrels("just 13 days", x, false);
        x.back(0, 100, 111);
        quarrels("a day less", x, true);
    }

    private static void laterThere() {
        Due.says("(LATER counts between CARDS that are THERE.)");
        ViewCards x = cards(TOWN, SEA);
        x.days(1);
        posted(x, 0, 0, 500);
        x.later(2, 1);
        x.later(1, 0);
        spanIs("all THERE", x, 0, PUBLISHED, 0, 498);
        x.set(1, 0);
        spanIs("CARD 2 is not THERE", x, 1, PUBLISHED, 1, 20000);
        spanIs("CARD 2 is not THERE", x, 0, PUBLISHED, 0, 19999);
        Due.due("told, all the same", x.count(7), 2);
        Due.due("later of one not THERE", x.later(2, 0), UNKNOWN);
        Due.due("later than one not THERE", x.later(0, 2), UNKNOWN);
        x.set(1, 1);
        Due.due("a ring", x.later(0, 2), 3);
        quarrels("a ring", x, true);
        x.set(1, 0);
        quarrels("a ring that is not all THERE", x, false);
    }

    private static void rings() {
        Due.says("QUARREL, if one becomes empty");
        for (int size = 2; size <= 12; size++) {
            ViewCards x = new ViewCards();
            for (int i = 0; i < size; i++) x.card(0, 0, 0, 0, TOWN, 0, -1);
            for (int i = 1; i < size; i++) x.later(i, i - 1);
            quarrels("a chain of " + size, x, false);
            x.later(0, size - 1);
            quarrels("a ring of " + size, x, true);
            Due.due("any of them is the culprit", x.culprit(), 0);
        }
        // However wide the spans and however long the way, the last day decides.
        ViewCards x = new ViewCards();
        for (int i = 0; i < 13; i++) x.card(0, 0, 0, i == 12 ? 1 : 0, i == 0 ? SEA : TOWN, 0, -1);
        for (int i = 12; i > 0; i--) x.later(i, i - 1);
        for (int f = 0; f < 8; f++) {
            x.feature(7 - f, 10 * f, 10 * f + 9);
            x.shows(0, 7 - f, HIDDEN);
        }
        x.back(1, 0, 92);
        quarrels("80 and 12 days", x, false);
        x.back(1, 0, 91);
        quarrels("a day less", x, true);
    }

    // ---- QUARREL and culprit

    private static void spanRefuses() {
        Due.says("span: sort 0, 1; what 0, 1; NONE: QUARREL; UNKNOWN; OUTSIDE");
        for (int quarrel = 0; quarrel < 2; quarrel++) {
            ViewCards x = cards(TOWN);
            if (quarrel == 1) x.shows(0, 0, HIDDEN);
            for (int odd : new int[] {-1, 2}) {
                Due.due("sort " + odd, x.span(0, odd, 0), OUTSIDE);
                Due.due("what " + odd, x.span(0, 0, odd), OUTSIDE);
                Due.due("what " + odd + " of PUBLISHED", x.span(0, 1, odd), OUTSIDE);
                Due.due("no such CARD", x.span(1, odd, odd), UNKNOWN);
            }
            Due.due("CARD -1", x.span(-1, 0, 0), UNKNOWN);
            quarrels("QUARREL", x, quarrel == 1);
        }
        ViewCards x = cards(TOWN, SEA);
        x.shows(1, 0, HIDDEN);
        quarrels("the QUARREL of another CARD", x, true);
        x.set(1, 0);
        quarrels("it is THERE", x, true);
    }

    private static void culprits() {
        Due.says("culprit: The least CARD without which there is none; NONE: none is such, or there is no QUARREL");
        ViewCards x = cards();
        Due.due("no CARDS", x.culprit(), NONE);
        Due.due("no CARDS, no QUARREL", x.quarrel(), 0);
        for (int wrong = 0; wrong < 20; wrong++) {
            ViewCards one = new ViewCards();
            for (int i = 0; i < 20; i++) one.card(0, 0, 0, i == wrong ? 1 : 0, TOWN, 0, 100);
            Due.due("no QUARREL", one.culprit(), NONE);
            one.back(1, 101, 200);
            Due.due("CARD " + wrong, one.culprit(), wrong);
            one.set(1, 5);
            Due.due("as of a day that it is THERE", one.culprit(), wrong);
        }
        ViewCards pair = cards(TOWN, TOWN, TOWN, SEA);
        pair.feature(0, 0, 50);
        pair.feature(1, 51, 90);
        pair.shows(1, 0, SHOWN);
        pair.shows(2, 1, SHOWN);
        Due.due("either is such, the least", pair.culprit(), 1);
        pair.shows(2, 0, HIDDEN);
        pair.shows(0, 1, SHOWN);
        Due.due("without CARD 1 alone there is none", pair.culprit(), 1);
        pair.shows(1, 1, HIDDEN);
        pair.shows(3, 2, HIDDEN);
        Due.due("CARD 3 by itself quarrels too: none is such", pair.culprit(), NONE);
        Due.due("though there is a QUARREL", pair.quarrel(), 1);
    }

    private static void culpritIsALink() {
        Due.says("culprit: The least CARD without which there is none");
        ViewCards x = cards(TOWN, TOWN, END, END, LINK);
        x.feature(0, 0, 50);
        x.feature(1, 51, 90);
        for (int card = 0; card < 2; card++) x.shows(card, 0, SHOWN);
        for (int card = 2; card < 4; card++) x.shows(card, 1, SHOWN);
        Due.due("without the link they are two NEGATIVES", x.culprit(), 4);
        ViewCards y = cards(TOWN, SEA);
        y.days(1);
        posted(y, SEA, 1, 0);
        y.back(1, 1, 2);
        Due.due("THERE it is the culprit", y.culprit(), 2);
        y.set(1, 0);
        Due.due("not THERE there is no QUARREL", y.culprit(), NONE);
        Due.due("not THERE there is no QUARREL", y.quarrel(), 0);
    }

    private static void culpritByLines() {
        Due.says("quarrel and culprit by THE CATALOGUE");
        ViewCards x = new ViewCards();
        x.card(0, 0, 1, 0, TOWN, 0, -1);
        x.card(0, 0, 2, 0, SEA, 0, 100);
        Due.tell(x, "of 0 from 2 to 2 day 101 to 200");
        Due.due("no CATALOGUE, no QUARREL", x.culprit(), NONE);
        x.catalogue();
        Due.due("CARD 1 against the LINE", x.culprit(), 1);
        Due.due("QUARREL", x.quarrel(), 1);
        x.erase();
        Due.tell(x, "of 0 from 2 to 2 day 100 to 200");
        x.catalogue();
        Due.due("on the day POSTED", x.culprit(), NONE);
        spanIs("on the day POSTED", x, 1, PUBLISHED, 100, 100);
    }

    public static void main(String[] args) {
        featuresAtFirst();
        daysOfFeaturesAndBacks();
        showing();
        takenInAllSpans();
        hidden();
        hiddenOneBehindAnother();
        publishedByBack();
        publishedByPosted();
        publishedByLines();
        publishedNotBeforeTaken();
        later();
        twelveLater();
        laterThere();
        rings();
        spanRefuses();
        culprits();
        culpritIsALink();
        culpritByLines();
        Due.end();
    }
}
