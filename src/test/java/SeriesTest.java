/** Promises 11 to 14: SERIES with their GAPS, and how many CARDS are UNSEEN. */
public final class SeriesTest {
    private static final int NONE = -1, UNKNOWN = -2, OUTSIDE = -3;
    private static final int LEAST = Integer.MIN_VALUE, MOST = Integer.MAX_VALUE;

    private static void number(ViewCards x, int publisher, int number) {
        x.card(0, publisher, number, 0, 0, 0, -1);
    }

    private static void seriesIs(ViewCards x, String when, int publisher, int... due) {
        for (int what = 0; what < 5; what++) {
            Due.due(when + ": series(" + publisher + ", " + what + ")", x.series(publisher, what), due[what]);
        }
    }

    private static void series() {
        ViewCards x = new ViewCards();
        seriesIs(x, "no CARDS", 0, 0, NONE, NONE, 0, 0);
        number(x, 0, 0);
        seriesIs(x, "a CARD without NUMBER", 0, 0, NONE, NONE, 0, 0);
        number(x, 0, 99);
        seriesIs(x, "one NUMBER", 0, 1, 99, 99, 0, 0);
        number(x, 0, 1);
        seriesIs(x, "the least and the greatest", 0, 2, 1, 99, 97, 1);
        number(x, 0, 50);
        number(x, 0, 50);
        seriesIs(x, "a NUMBER told twice", 0, 3, 1, 99, 96, 2);
        number(x, 0, 2);
        number(x, 0, 97);
        seriesIs(x, "GAPS of any length", 0, 5, 1, 99, 94, 3);
        seriesIs(x, "another PUBLISHER", 4, 0, NONE, NONE, 0, 0);
        number(x, 4, 7);
        number(x, 4, 8);
        seriesIs(x, "NUMBERS in a row", 4, 2, 7, 8, 0, 0);
        x.days(2);
        number(x, 4, 3);
        seriesIs(x, "all THERE", 4, 3, 3, 8, 3, 1);
        x.set(1, 1);
        seriesIs(x, "as of the day before", 4, 2, 7, 8, 0, 0);
        for (int odd : new int[] {-1, 5, LEAST, MOST}) {
            Due.due("series(" + odd + ", 0)", x.series(odd, 0), UNKNOWN);
            Due.due("series(0, " + odd + ")", x.series(0, odd), OUTSIDE);
            Due.due("UNKNOWN ahead of OUTSIDE", x.series(odd, odd), UNKNOWN);
        }
    }

    private static void gap() {
        ViewCards x = new ViewCards();
        Due.due("no CARDS", x.gap(0, 0), NONE);
        number(x, 0, 99);
        number(x, 0, 1);
        Due.due("one GAP", x.gap(0, 0), 298);
        Due.due("no second", x.gap(0, 1), NONE);
        number(x, 0, 98);
        number(x, 0, 96);
        number(x, 0, 3);
        number(x, 0, 0);
        Due.due("GAP 0", x.gap(0, 0), 202);
        Due.due("GAP 1", x.gap(0, 1), 495);
        Due.due("GAP 2", x.gap(0, 2), 9797);
        Due.due("GAP 3", x.gap(0, 3), NONE);
        Due.due("GAP MOST", x.gap(0, MOST), NONE);
        Due.due("another PUBLISHER", x.gap(1, 0), NONE);
        Due.due("the last PUBLISHER", x.gap(4, 0), NONE);
        x.days(1);
        number(x, 0, 97);
        Due.due("filled", x.gap(0, 2), NONE);
        x.set(1, 0);
        Due.due("not filled as of the day before", x.gap(0, 2), 9797);
        for (int odd : new int[] {-1, 5, LEAST, MOST}) Due.due("gap(" + odd + ", 0)", x.gap(odd, 0), UNKNOWN);
        Due.due("gap(0, -1)", x.gap(0, -1), OUTSIDE);
        Due.due("gap(0, LEAST)", x.gap(0, LEAST), OUTSIDE);
        Due.due("UNKNOWN ahead of OUTSIDE", x.gap(5, -1), UNKNOWN);
    }

    /** CARDS that are ONE if their NUMBERS are the same. */
    private static void inLists(ViewCards x, int number, int... lists) {
        for (int list : lists) x.card(list, 0, number, 0, 0, 0, -1);
    }

    private static void unseenIs(ViewCards x, String when, int above, int below) {
        Due.due("unseen(0), " + when, x.unseen(0), above);
        Due.due("unseen(1), " + when, x.unseen(1), below);
    }

    private static void unseen() {
        ViewCards x = new ViewCards();
        unseenIs(x, "no CARDS", 0, 1);
        inLists(x, 1, 0);
        unseenIs(x, "one CARD", 0, 1);
        inLists(x, 2, 1);
        unseenIs(x, "two CARDS", 1, 1);
        inLists(x, 3, 1);
        unseenIs(x, "three CARDS", 3, 1);
        inLists(x, 4, 2, 3);
        unseenIs(x, "9 by 2", 9, 2);
        inLists(x, 5, 1, 2);
        unseenIs(x, "9 by 4", 9, 4);
        inLists(x, 6, 1, 0);
        unseenIs(x, "9 by 6", 3, 2);
        inLists(x, 7, 0, 1, 2);
        unseenIs(x, "SEEN three times counts for neither", 3, 2);
        inLists(x, 8, 0, 0);
        unseenIs(x, "twice in one LIST is two CARDS", 25, 6);
        inLists(x, 8, 1);
        unseenIs(x, "now ONE, SEEN twice", 9, 8);
        for (int odd : new int[] {-1, 2, LEAST, MOST}) Due.due("unseen(" + odd + ")", x.unseen(odd), OUTSIDE);
        x = new ViewCards();
        inLists(x, 1, 0, 1);
        unseenIs(x, "none SEEN once", 0, 1);
        x.days(1);
        inLists(x, 2, 0);
        inLists(x, 1, 3);
        unseenIs(x, "one SEEN once, one three times", 0, 1);
        inLists(x, 3, 0, 1);
        unseenIs(x, "1 by 2", 1, 2);
        x.set(1, 0);
        unseenIs(x, "as of the first day", 0, 1);
    }

    private static void overlapIs(ViewCards x, String when, int one, int two, int... due) {
        for (int part = 0; part < 3; part++) {
            Due.due("overlap(" + one + ", " + two + ", " + part + "), " + when, x.overlap(one, two, part), due[part]);
            Due.due("overlap(" + two + ", " + one + ", " + part + "), " + when, x.overlap(two, one, part), due[part]);
        }
    }

    private static void overlap() {
        ViewCards x = new ViewCards();
        overlapIs(x, "no CARDS", 0, 3, 0, NONE, NONE);
        inLists(x, 1, 0);
        inLists(x, 2, 1);
        overlapIs(x, "none of both", 0, 1, 0, NONE, NONE);
        inLists(x, 3, 0, 1);
        overlapIs(x, "one of both", 0, 1, 1, 4, 1);
        inLists(x, 4, 0, 1);
        inLists(x, 4, 0, 1);
        overlapIs(x, "each ONE once", 0, 1, 2, 9, 2);
        inLists(x, 5, 0);
        // The document asks for lowest terms of UNSEEN alone.
        overlapIs(x, "as it stands", 0, 1, 2, 12, 2);
        inLists(x, 6, 0, 2);
        inLists(x, 6, 1);
        overlapIs(x, "three LISTS", 0, 1, 3, 20, 3);
        overlapIs(x, "two of three LISTS", 1, 2, 1, 4, 1);
        x.days(1);
        inLists(x, 5, 2);
        overlapIs(x, "one more", 0, 2, 2, 10, 2);
        x.set(1, 0);
        overlapIs(x, "not THERE", 0, 2, 1, 5, 1);
        for (int odd : new int[] {-1, 4, LEAST, MOST}) {
            Due.due("overlap(" + odd + ", 0, 0)", x.overlap(odd, 0, 0), UNKNOWN);
            Due.due("overlap(0, " + odd + ", 0)", x.overlap(0, odd, 0), UNKNOWN);
            Due.due("UNKNOWN ahead of OUTSIDE", x.overlap(0, odd, 3), UNKNOWN);
        }
        for (int odd : new int[] {-1, 3, LEAST, MOST}) Due.due("overlap(0, 1, " + odd + ")", x.overlap(0, 1, odd), OUTSIDE);
        for (int list = 0; list < 4; list++) Due.due("one and itself", x.overlap(list, list, 0), UNKNOWN);
        Due.due("one and itself ahead of OUTSIDE", x.overlap(0, 0, 3), UNKNOWN);
    }

    public static void main(String[] args) {
        series();
        gap();
        unseen();
        overlap();
        Due.end();
    }
}
