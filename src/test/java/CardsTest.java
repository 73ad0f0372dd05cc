/** Promises 1 to 10: a new object, CARDS as they are told, and what is asked of them alone. */
public final class CardsTest {
    private static final int NONE = -1, UNKNOWN = -2, OUTSIDE = -3, NOT = -4, FULL = -5;
    private static final int LEAST = Integer.MIN_VALUE, MOST = Integer.MAX_VALUE;

    /** No row and no column like another, so that a shift is told from any other. */
    private static final long TOWN = Due.picture(
            "#..#.##.",
            ".##..#.#",
            "#.#.#..#",
            "..##.#..",
            "##...##.",
            ".#.##..#",
            "#..#...#",
            ".##.###.");

    private static void newObject() {
        ViewCards x = new ViewCards();
        for (int what = 0; what < 8; what++) Due.due("count(" + what + ") of a new object", x.count(what), 0);
        Due.due("fault() of a new object", x.fault(), 0);
        Due.due("catalogue() of a new object", x.catalogue(), NOT);
        Due.due("breaks(0) of a new object", x.breaks(0), UNKNOWN);
        Due.due("erase() of a new object", x.erase(), 0);
        Due.due("quarrel() of a new object", x.quarrel(), 0);
        Due.due("culprit() of a new object", x.culprit(), NONE);
        Due.due("negative(0) of a new object", x.negative(0), UNKNOWN);
        Due.due("SLACK at first", x.set(0, 0), 2);
        Due.due("AS OF at first", x.set(1, 0), 999);
        Due.due("BASE at first", x.set(2, 1), 100);
        ViewCards y = new ViewCards();
        Due.due("nothing is held in common", y.set(0, 0), 2);
        Due.due("the constants", ViewCards.NONE * 10000 + ViewCards.UNKNOWN * 1000 + ViewCards.OUTSIDE * 100
                + ViewCards.NOT * 10 + ViewCards.FULL, -12345);
    }

    private static void card() {
        ViewCards x = new ViewCards();
        for (int odd : new int[] {-1, 4, LEAST, MOST}) Due.due("card, LIST " + odd, x.card(odd, 0, 1, 0, 0, 0, -1), UNKNOWN);
        for (int odd : new int[] {-1, 5, LEAST, MOST}) {
            Due.due("card, PUBLISHER " + odd, x.card(0, odd, 1, 0, 0, 0, -1), UNKNOWN);
            Due.due("card, BACK " + odd, x.card(0, 0, 1, odd, 0, 0, -1), UNKNOWN);
            Due.due("card, SKY " + odd, x.card(0, 0, 1, 0, 0, odd, -1), OUTSIDE);
        }
        for (int odd : new int[] {-1, 100, LEAST, MOST}) Due.due("card, NUMBER " + odd, x.card(0, 0, odd, 0, 0, 0, -1), OUTSIDE);
        for (int odd : new int[] {-2, 20001, LEAST, MOST}) Due.due("card, POSTED " + odd, x.card(0, 0, 1, 0, 0, 0, odd), OUTSIDE);
        Due.due("UNKNOWN ahead of OUTSIDE", x.card(0, 0, 100, 5, 0, 5, -2), UNKNOWN);
        Due.due("nothing was told", x.count(0), 0);
        Due.due("the first", x.card(0, 0, 0, 0, 0, 0, -1), 0);
        Due.due("all at the most", x.card(3, 4, 99, 4, -1, 4, 20000), 1);
        for (int i = 2; i < 20; i++) Due.due("card " + i, x.card(i % 4, i % 5, i, i % 5, i, i % 5, i - 2), i);
        Due.due("the 21st", x.card(0, 0, 1, 0, 0, 0, -1), FULL);
        Due.due("UNKNOWN ahead of FULL", x.card(4, 0, 1, 0, 0, 0, -1), UNKNOWN);
        Due.due("OUTSIDE ahead of FULL", x.card(0, 0, 1, 0, 0, 5, -1), OUTSIDE);
        Due.due("20 are kept", x.count(0), 20);
        Due.due("the last is there", x.negative(19) >= 0 ? 1 : 0, 1);
        Due.due("no 21st is there", x.negative(20), UNKNOWN);
    }

    private static void caption() {
        ViewCards x = new ViewCards();
        x.card(0, 0, 1, 0, 0, 0, -1);
        x.card(0, 0, 1, 0, 0, 0, -1);
        Due.due("none at first", x.far(0, 1), 0);
        Due.due("a to z", Due.say(x, 0, "abyz"), 1);
        Due.due("four letters", x.far(0, 1), 4);
        for (int odd : new int[] {-1, 2, LEAST, MOST}) Due.due("caption of CARD " + odd, x.caption(odd, 97, 1), UNKNOWN);
        for (int odd : new int[] {-1, 9, LEAST, MOST}) Due.due("caption of " + odd, x.caption(0, Due.word("aaaaaaaa"), odd), OUTSIDE);
        for (int sign : new int[] {96, 123, 65, 32, 48, 0, 225, 255}) Due.due("letter " + sign, x.caption(0, sign, 1), OUTSIDE);
        Due.due("the last letter is none", Due.say(x, 0, "aaaaaaa" + (char) 225), OUTSIDE);
        Due.due("one in the middle is none", Due.say(x, 0, "ab.d"), OUTSIDE);
        Due.due("UNKNOWN ahead of OUTSIDE", x.caption(2, 0, 9), UNKNOWN);
        Due.due("refused, it is as it was", x.far(0, 1), 4);
        Due.due("what is behind n does not count", x.caption(0, -256L | 'q', 1), 1);
        Due.due("one letter", x.far(0, 1), 1);
        Due.due("eight letters", Due.say(x, 0, "zzzzzzzz"), 1);
        Due.due("eight letters are kept", x.far(0, 1), 8);
        Due.due("no letters", x.caption(0, -1, 0), 1);
        Due.due("empty again", x.far(0, 1), 0);
    }

    private static void days() {
        ViewCards x = new ViewCards();
        for (int odd : new int[] {0, 100, -1, LEAST, MOST}) Due.due("days(" + odd + ")", x.days(odd), OUTSIDE);
        Due.due("no day went by", x.count(4), 0);
        Due.due("days(1)", x.days(1), 1);
        for (int i = 1; i <= 10; i++) Due.due("99 days more", x.days(99), 1 + 99 * i);
        Due.due("beyond 999", x.days(9), OUTSIDE);
        Due.due("THE DAY stays", x.count(4), 991);
        Due.due("up to 999", x.days(8), 999);
        Due.due("one beyond", x.days(1), OUTSIDE);
        Due.due("at the end", x.count(4), 999);
    }

    private static void set() {
        ViewCards x = new ViewCards();
        int[] least = {0, 0, 1}, most = {8, 999, 10000}, first = {2, 999, 100};
        for (int what = 0; what < 3; what++) {
            for (int odd : new int[] {least[what] - 1, most[what] + 1, LEAST, MOST}) {
                Due.due("set(" + what + ", " + odd + ")", x.set(what, odd), OUTSIDE);
            }
            Due.due("set(" + what + ") to the least", x.set(what, least[what]), first[what]);
            Due.due("set(" + what + ") to the most", x.set(what, most[what]), least[what]);
            Due.due("set(" + what + ") back", x.set(what, first[what]), most[what]);
        }
        for (int odd : new int[] {-1, 3, LEAST, MOST}) Due.due("set(" + odd + ", 1)", x.set(odd, 1), OUTSIDE);
    }

    private static int differenceOf(long one, int sky, long other, int otherSky) {
        ViewCards x = new ViewCards();
        x.card(0, 0, 1, 0, one, sky, -1);
        x.card(0, 0, 1, 0, other, otherSky, -1);
        Due.due("it is the same from either side", x.difference(1, 0), x.difference(0, 1));
        return x.difference(0, 1);
    }

    private static void difference() {
        for (int dx = -2; dx <= 2; dx++) {
            for (int dy = -2; dy <= 2; dy++) {
                Due.due("shifted by " + dx + ", " + dy, differenceOf(TOWN, 0, Due.moved(TOWN, dx, dy), 0), 0);
            }
        }
        Due.due("shifted by three", differenceOf(TOWN, 0, Due.moved(TOWN, 3, 0), 0), 12);
        Due.due("shifted down by three", differenceOf(TOWN, 0, Due.moved(TOWN, 0, -3), 0), 12);
        Due.due("one cell painted out", differenceOf(TOWN, 0, TOWN ^ 1L << 27, 0), 1);
        Due.due("all against none", differenceOf(-1, 0, 0, 0), 36);
        Due.due("24 cells with SKY", differenceOf(-1, 4, 0, 0), 24);
        Due.due("a sky added", differenceOf(TOWN, 0, TOWN ^ 0xffff, 2), 0);
        Due.due("the row below the sky counts", differenceOf(-1, 2, -1L << 24, 0), 0);
        long lower = Due.moved(TOWN, 0, 4);
        Due.due("24 cells are enough, the whole width", differenceOf(lower, 4, Due.moved(lower, 0, 1), 4), 0);
        Due.due("24 cells are enough, less wide", differenceOf(lower, 4, Due.moved(lower, 2, 0), 4), 0);
        Due.due("21 cells are too few", differenceOf(lower, 4, Due.moved(lower, 1, 1), 4) > 0 ? 1 : 0, 1);
        Due.due("SKY of the other alone", differenceOf(TOWN, 0, TOWN ^ 0xffffffffL, 4), 0);
        ViewCards x = new ViewCards();
        x.card(0, 0, 1, 0, TOWN, 0, -1);
        x.card(0, 0, 1, 0, TOWN, 0, -1);
        Due.due("difference(0, 0)", x.difference(0, 0), UNKNOWN);
        Due.due("difference(0, 2)", x.difference(0, 2), UNKNOWN);
        Due.due("difference(-1, 1)", x.difference(-1, 1), UNKNOWN);
        Due.due("difference(MOST, LEAST)", x.difference(MOST, LEAST), UNKNOWN);
    }

    private static void negative() {
        ViewCards x = new ViewCards();
        long fields = Due.picture("########", "........", "########");
        x.card(0, 0, 1, 0, fields, 0, -1);
        x.card(0, 1, 1, 1, TOWN, 0, -1);
        x.days(3);
        x.card(0, 2, 2, 2, TOWN ^ 3L << 35, 0, -1);
        x.days(3);
        x.card(0, 3, 3, 3, TOWN ^ 15L << 35, 0, -1);
        Due.due("two otherwise", x.difference(1, 2), 2);
        Due.due("four otherwise", x.difference(1, 3), 4);
        Due.due("another NEGATIVE", x.negative(0), 0);
        Due.due("the least tells it", x.negative(1), 1);
        Due.due("LIKE by SLACK at most", x.negative(2), 1);
        Due.due("by a chain", x.negative(3), 1);
        Due.due("NEGATIVES", x.count(2), 2);
        Due.due("PUBLISHERS of it", x.of(3, 4), 3);
        x.set(0, 1);
        Due.due("with less SLACK", x.negative(2), 2);
        x.set(0, 4);
        Due.due("with more SLACK", x.negative(3), 1);
        x.set(0, 2);
        x.set(1, 5);
        Due.due("not THERE", x.negative(3), UNKNOWN);
        x.set(1, 2);
        Due.due("told on a later day", x.negative(2), UNKNOWN);
        Due.due("PUBLISHERS of those THERE", x.of(1, 4), 1);
        x.set(1, 3);
        Due.due("told on that day", x.negative(2), 1);
        Due.due("negative(-1)", x.negative(-1), UNKNOWN);
        Due.due("negative(4)", x.negative(4), UNKNOWN);
    }

    private static void chainOverCardsThatAreNotThere() {
        ViewCards x = new ViewCards();
        x.set(1, 0);
        x.card(0, 0, 1, 0, TOWN, 0, -1);
        x.card(0, 0, 1, 0, TOWN ^ 15L << 35, 0, -1);
        x.days(1);
        x.card(0, 0, 1, 0, TOWN ^ 3L << 35, 0, -1);
        Due.due("the link is not THERE", x.negative(1), 1);
        x.set(1, 1);
        Due.due("the link is THERE", x.negative(1), 0);
    }

    private static int farOf(String one, String other) {
        ViewCards x = new ViewCards();
        x.card(0, 0, 1, 0, 0, 0, -1);
        x.card(0, 0, 1, 0, 0, 0, -1);
        Due.say(x, 0, one);
        Due.say(x, 1, other);
        Due.due("far is the same from either side", x.far(1, 0), x.far(0, 1));
        return x.far(0, 1);
    }

    private static void far() {
        Due.due("the same", farOf("bridge", "bridge"), 0);
        Due.due("one changed", farOf("mill", "hill"), 1);
        Due.due("one put in", farOf("mill", "milly"), 1);
        Due.due("one left out in front", farOf("smill", "mill"), 1);
        Due.due("two changed places", farOf("ab", "ba"), 2);
        Due.due("kitten and sitting", farOf("kitten", "sitting"), 3);
        Due.due("all otherwise", farOf("aaaaaaaa", "bbbbbbbb"), 8);
        Due.due("against none", farOf("", "bbbbbbbb"), 8);
        Due.due("shifted by one", farOf("abcdefgh", "bcdefgha"), 2);
        ViewCards x = new ViewCards();
        x.card(0, 0, 1, 0, 0, 0, -1);
        Due.say(x, 0, "church");
        Due.due("from itself", x.far(0, 0), 0);
        x.card(0, 0, 1, 0, 0, 0, -1);
        Due.due("a CARD told later", x.far(0, 1), 6);
        Due.due("far(0, 2)", x.far(0, 2), UNKNOWN);
        Due.due("far(-1, 0)", x.far(-1, 0), UNKNOWN);
        Due.due("far(MOST, MOST)", x.far(MOST, MOST), UNKNOWN);
    }

    private static void match() {
        ViewCards x = new ViewCards();
        x.card(0, 0, 7, 0, TOWN, 0, -1);
        x.card(0, 0, 7, 0, TOWN, 0, -1);
        x.card(1, 1, 7, 0, TOWN, 0, -1);
        x.card(1, 0, 7, 1, TOWN, 0, -1);
        x.card(1, 0, 8, 0, TOWN, 0, -1);
        x.card(1, 0, 0, 0, TOWN, 0, -1);
        x.card(1, 0, 7, 0, TOWN ^ 7L << 35, 0, -1);
        x.card(1, 0, 7, 0, Due.moved(TOWN, 1, 2), 0, -1);
        x.card(2, 0, 0, 0, TOWN, 0, -1);
        String[] why = {"", "the same LIST", "another PUBLISHER", "another BACK", "another NUMBER", "no NUMBER",
            "DIFFERENCE above SLACK", "all the same", "no NUMBER here"};
        int[] due = {0, 0, 0, 0, 0, 1, 0, 1, 1};
        for (int b = 1; b < 9; b++) {
            Due.due(why[b], x.match(0, b), due[b]);
            Due.due(why[b] + ", turned", x.match(b, 0), due[b]);
        }
        Due.due("neither has a NUMBER", x.match(5, 8), 1);
        Due.say(x, 0, "mill");
        Due.say(x, 7, "mi");
        Due.due("FAR 2", x.match(0, 7), 1);
        Due.say(x, 7, "m");
        Due.due("FAR 3", x.match(0, 7), 0);
        x.set(0, 3);
        Due.say(x, 6, "mill");
        Due.due("with SLACK 3", x.match(0, 6), 1);
        Due.due("match(0, 0)", x.match(0, 0), UNKNOWN);
        Due.due("match(0, 9)", x.match(0, 9), UNKNOWN);
        Due.due("match(-1, 0)", x.match(-1, 0), UNKNOWN);
    }

    /** CARDS 0 (LIST 0), 1 and 2 (LIST 1), 3 (LIST 2), 4 (LIST 2, none of them), 5 (LIST 3, later). */
    private static ViewCards rivals() {
        ViewCards x = new ViewCards();
        x.card(0, 0, 5, 0, TOWN, 0, -1);
        x.card(1, 0, 0, 0, TOWN, 0, -1);
        x.card(1, 0, 5, 0, TOWN, 0, -1);
        x.card(2, 0, 6, 0, TOWN, 0, -1);
        x.card(2, 0, 9, 0, 0, 0, -1);
        x.days(1);
        x.card(3, 0, 5, 0, TOWN, 0, -1);
        return x;
    }

    private static void of() {
        ViewCards x = rivals();
        Due.due("ONE with itself", x.of(0, 0), 0);
        Due.due("ONE by MATCH", x.of(2, 0), 0);
        Due.due("ONE by a chain", x.of(3, 0), 0);
        Due.due("ONE alone", x.of(4, 0), 4);
        Due.due("SEEN", x.of(0, 1), 4);
        Due.due("SEEN of all that are ONE", x.of(3, 1), 4);
        Due.due("SEEN once", x.of(4, 1), 1);
        Due.due("RIVALS", x.of(0, 2), 1);
        Due.due("one MATCH is no RIVAL", x.of(3, 2), 0);
        Due.due("RIVALS of the other LISTS alone", x.of(1, 2), 0);
        Due.due("RIVALS of one THERE on another day", x.of(5, 2), 1);
        Due.due("two are ONE", x.count(3), 2);
        Due.due("PRICE by SEEN and RIVALS", x.of(0, 3), 19);
        Due.due("PRICE by a GAP", x.of(3, 3), 37);
        Due.due("PRICE of 9, by a GAP", x.of(4, 3), 150);
        Due.due("PRICE without NUMBER", x.of(1, 3), 25);
        x.set(2, 10000);
        Due.due("PRICE by BASE", x.of(0, 3), 1875);
        x.set(1, 0);
        Due.due("SEEN of those THERE", x.of(0, 1), 3);
        Due.due("PRICE of those THERE", x.of(0, 3), 2500);
        Due.due("not THERE", x.of(5, 0), UNKNOWN);
        for (int odd : new int[] {-1, 5, LEAST, MOST}) Due.due("of(0, " + odd + ")", x.of(0, odd), OUTSIDE);
        Due.due("of(-1, 0)", x.of(-1, 0), UNKNOWN);
        Due.due("UNKNOWN ahead of OUTSIDE", x.of(6, 5), UNKNOWN);
    }

    private static void rivalsToldInTurns() {
        ViewCards x = new ViewCards();
        int[] lists = {1, 2, 1, 2, 3, 0};
        for (int list : lists) x.card(list, 0, 5, 0, TOWN, 0, -1);
        Due.due("RIVALS of two LISTS, told in turns", x.of(5, 2), 2);
        Due.due("RIVALS of one other LIST", x.of(0, 2), 1);
        x.card(3, 0, 5, 0, TOWN, 0, -1);
        Due.due("RIVALS of three LISTS", x.of(5, 2), 3);
        x.card(3, 0, 5, 0, TOWN, 0, -1);
        Due.due("three of one LIST", x.of(5, 2), 3);
    }

    private static void priceIsCutAtEveryStep() {
        ViewCards x = new ViewCards();
        x.card(0, 0, 5, 0, TOWN, 0, -1);
        x.card(1, 0, 5, 0, TOWN, 0, -1);
        x.card(1, 0, 5, 0, TOWN, 0, -1);
        x.card(2, 0, 7, 0, 0, 0, -1);
        x.set(2, 11);
        // 11 by 2 is 5; half as much again 7; a fourth of it is 1.
        Due.due("cut three times", x.of(0, 3), 6);
        Due.due("no RIVALS", x.of(1, 3), 7);
        Due.due("NUMBER 7 is by the same GAP", x.of(3, 3), 16);
        x.card(2, 0, 4, 0, 0, 0, -1);
        Due.due("NUMBER 4 is by no GAP", x.of(4, 3), 11);
        x.card(2, 1, 6, 0, 0, 0, -1);
        Due.due("another PUBLISHER's fills none", x.of(3, 3), 16);
        x.card(2, 0, 6, 0, 0, 0, -1);
        Due.due("6 is no more MISSING", x.of(3, 3), 11);
    }

    public static void main(String[] args) {
        newObject();
        card();
        caption();
        days();
        set();
        difference();
        negative();
        chainOverCardsThatAreNotThere();
        far();
        match();
        of();
        rivalsToldInTurns();
        priceIsCutAtEveryStep();
        Due.end();
    }
}
