import java.util.Random;

/** Part 1 of the terms, CARDS, sentence by sentence, at each bound and just beyond it (promises 1 to 10). */
public final class CardsTermsTest {
    private static final int UNKNOWN = -2, OUTSIDE = -3, FULL = -5;
    private static final long TOWN = World.TOWN;

    private static ViewCards told(int... lists) {
        ViewCards x = new ViewCards();
        for (int list : lists) x.card(list, 0, 1, 0, TOWN, 0, -1);
        return x;
    }

    /** Two CARDS of unlike LISTS that MATCH but for what is told of them. */
    private static ViewCards two(long one, int sky, long other, int otherSky) {
        ViewCards x = new ViewCards();
        x.card(0, 0, 1, 0, one, sky, -1);
        x.card(1, 0, 1, 0, other, otherSky, -1);
        return x;
    }

    // ---- what a CARD is told with

    private static void numberedFromNought() {
        Due.says("CARDS are numbered from 0, 20 at most, as they are told");
        ViewCards x = new ViewCards();
        Due.due("negative(0) of none", x.negative(0), UNKNOWN);
        for (int i = 0; i < 20; i++) {
            Due.due("not yet told " + i, x.negative(i), UNKNOWN);
            Due.due("card " + i, x.card(0, 0, 1, 0, TOWN, 0, -1), i);
            Due.due("told " + i, x.negative(i), 0);
            Due.due("so many are told", x.count(0), i + 1);
        }
        Due.due("the 21st", x.card(0, 0, 1, 0, TOWN, 0, -1), FULL);
        Due.due("20 stay", x.count(0), 20);
        Due.due("and are THERE", x.count(1), 20);
        Due.due("no CARD 20", x.negative(20), UNKNOWN);
    }

    private static void lists() {
        Due.says("a LIST 0 .. 3");
        for (int list = 0; list < 4; list++) Due.due("LIST " + list, told(list).count(0), 1);
        for (int odd : new int[] {-1, 4}) {
            ViewCards x = new ViewCards();
            Due.due("LIST " + odd, x.card(odd, 0, 1, 0, TOWN, 0, -1), UNKNOWN);
            Due.due("none is told", x.count(0), 0);
        }
        Due.due("four LISTS", told(0, 1, 2, 3).of(0, 1), 4);
        for (int list = 0; list < 4; list++) {
            ViewCards x = told(list, (list + 1) % 4);
            Due.due("two LISTS", x.of(0, 1), 2);
            Due.due("both have it", x.overlap(list, (list + 1) % 4, 0), 1);
            Due.due("the others have not", x.overlap((list + 2) % 4, (list + 3) % 4, 0), 0);
        }
    }

    private static void publishers() {
        Due.says("a PUBLISHER 0 .. 4");
        ViewCards x = new ViewCards();
        for (int publisher = 0; publisher < 5; publisher++) {
            Due.due("PUBLISHER " + publisher, x.card(0, publisher, 10 + publisher, 0, TOWN, 0, -1), publisher);
            Due.due("so many PUBLISHERS", x.of(0, 4), publisher + 1);
            Due.due("its SERIES", x.series(publisher, 1), 10 + publisher);
        }
        for (int odd : new int[] {-1, 5}) {
            Due.due("PUBLISHER " + odd, x.card(0, odd, 1, 0, TOWN, 0, -1), UNKNOWN);
            Due.due("none is told", x.count(0), 5);
        }
    }

    private static void numbers() {
        Due.says("a NUMBER (1 .. 99; 0: none)");
        for (int number = 1; number <= 99; number++) {
            ViewCards x = new ViewCards();
            Due.due("NUMBER " + number, x.card(0, 0, number, 0, TOWN, 0, -1), 0);
            Due.due("it is in the SERIES", x.series(0, 1), number);
            Due.due("and no other", x.series(0, 0), 1);
        }
        ViewCards x = new ViewCards();
        Due.due("none", x.card(0, 0, 0, 0, TOWN, 0, -1), 0);
        Due.due("it is in no SERIES", x.series(0, 0), 0);
        for (int odd : new int[] {-1, 100}) {
            Due.due("NUMBER " + odd, x.card(0, 0, odd, 0, TOWN, 0, -1), OUTSIDE);
            Due.due("none is told", x.count(0), 1);
        }
    }

    private static void backs() {
        Due.says("a BACK 0 .. 4");
        ViewCards x = new ViewCards();
        for (int back = 0; back < 5; back++) {
            Due.due("BACK " + back, x.card(0, 0, 1, back, TOWN, 0, -1), back);
            Due.due("BACK " + back + " again", x.back(back, 100 + back, 200), 1);
            Due.due("its own days", x.span(back, 1, 0), 100 + back);
        }
        for (int odd : new int[] {-1, 5}) {
            Due.due("BACK " + odd, x.card(0, 0, 1, odd, TOWN, 0, -1), UNKNOWN);
            Due.due("none is told", x.count(0), 5);
        }
    }

    private static void pictures() {
        Due.says("a PICTURE (8 by 8 cells, bit 8 y + x)");
        for (int bit = 0; bit < 64; bit++) {
            Due.due("bit " + bit + " is otherwise", two(TOWN, 0, TOWN ^ 1L << bit, 0).difference(0, 1), 1);
            long row = 255L << 8 * (bit / 8);
            long due = bit / 8 < 4 ? 0 : 1;
            Due.due("bit " + bit + " is of row " + bit / 8, two(TOWN, 4, TOWN ^ 1L << bit, 0).difference(0, 1), due);
            Due.due("a row is eight bits", two(TOWN, 4, TOWN ^ row & 0xffffffffL, 0).difference(0, 1), 0);
        }
        Due.due("x grows with the bit: one to the right", two(TOWN, 0, Due.moved(TOWN, 1, 0), 0).difference(0, 1), 0);
        Due.due("all cells", two(-1, 0, -1, 0).difference(0, 1), 0);
        Due.due("no cells", two(0, 0, 0, 0).difference(0, 1), 0);
    }

    private static void sky() {
        Due.says("SKY (0 .. 4 rows from above that are not of the negative)");
        for (int sky = 0; sky <= 4; sky++) {
            for (int y = 0; y < 8; y++) {
                long other = TOWN ^ 1L << 8 * y + 3;
                int due = y < sky ? 0 : 1;
                Due.due("SKY " + sky + " of the one, row " + y, two(TOWN, sky, other, 0).difference(0, 1), due);
                Due.due("SKY " + sky + " of the other, row " + y, two(TOWN, 0, other, sky).difference(0, 1), due);
                Due.due("SKY " + sky + " of both, row " + y, two(TOWN, sky, other, sky).difference(0, 1), due);
            }
        }
        for (int odd : new int[] {-1, 5}) {
            ViewCards x = new ViewCards();
            Due.due("SKY " + odd, x.card(0, 0, 1, 0, TOWN, odd, -1), OUTSIDE);
            Due.due("none is told", x.count(0), 0);
        }
    }

    private static void posted() {
        Due.says("a day POSTED (0 .. 20000; -1: none)");
        for (int day : new int[] {0, 1, 9999, 19999, 20000}) {
            ViewCards x = new ViewCards();
            Due.due("POSTED " + day, x.card(0, 0, 1, 0, TOWN, 0, day), 0);
            Due.due("PUBLISHED on that day or before", x.span(0, 1, 1), day);
            Due.due("PUBLISHED from the first day", x.span(0, 1, 0), 0);
        }
        ViewCards x = new ViewCards();
        Due.due("none", x.card(0, 0, 1, 0, TOWN, 0, -1), 0);
        Due.due("PUBLISHED on any day", x.span(0, 1, 1), 20000);
        for (int odd : new int[] {-2, 20001}) {
            Due.due("POSTED " + odd, x.card(0, 0, 1, 0, TOWN, 0, odd), OUTSIDE);
            Due.due("none is told", x.count(0), 1);
        }
    }

    // ---- CAPTIONS

    private static void captions() {
        Due.says("a CAPTION (0 .. 8 letters a .. z; none at first)");
        ViewCards x = told(0, 0);
        Due.due("none at first", x.far(0, 1), 0);
        for (int n = 0; n <= 8; n++) {
            Due.due(n + " letters", x.caption(0, 0x7a7a7a7a7a7a7a7aL, n), 1);
            Due.due(n + " letters from none", x.far(0, 1), n);
        }
        for (int odd : new int[] {-1, 9}) {
            Due.due(odd + " letters", x.caption(0, 0x6161616161616161L, odd), OUTSIDE);
            Due.due("eight letters stay", x.far(0, 1), 8);
        }
        Due.say(x, 1, "zzzzzzzz");
        Due.due("and are the same letters", x.far(0, 1), 0);
        x.card(1, 0, 1, 0, TOWN, 0, -1);
        Due.due("none at first of one told behind them", x.far(0, 2), 8);
        Due.due("and so they do not MATCH", x.match(2, 1), 0);
    }

    private static void letters() {
        Due.says("letter i (from 0) is the byte word >> 8 i & 255; OUTSIDE: a byte that is none of a .. z");
        for (int sign = 0; sign < 256; sign++) {
            boolean isLetter = sign >= 'a' && sign <= 'z';
            ViewCards x = told(0, 0);
            for (int i = 0; i < 8; i++) {
                long word = 0x6d6d6d6d6d6d6d6dL & ~(255L << 8 * i) | (long) sign << 8 * i;
                Due.due("byte " + sign + " as letter " + i, x.caption(0, word, 8), isLetter ? 1 : OUTSIDE);
                Due.due("byte " + sign + " as the last letter", x.caption(1, word, i + 1), isLetter ? 1 : OUTSIDE);
                Due.due("byte " + sign + " behind the last letter", x.caption(1, word, i), 1);
            }
        }
        ViewCards x = told(0, 0);
        Due.say(x, 0, "abcdefgh");
        String[] otherwise = {"xbcdefgh", "axcdefgh", "abxdefgh", "abcxefgh", "abcdxfgh", "abcdexgh", "abcdefxh", "abcdefgx"};
        for (String word : otherwise) {
            Due.say(x, 1, word);
            Due.due(word, x.far(0, 1), 1);
        }
        Due.due("a CAPTION is told anew", Due.say(x, 1, "abcdefgh"), 1);
        Due.due("the one before is gone", x.far(0, 1), 0);
    }

    // ---- THE DAY and AS OF

    private static void theDay() {
        Due.says("THE DAY (0 at first; 999 at most, one behind the other); n DAYS (1 .. 99) go by");
        for (int n = 1; n <= 99; n++) {
            ViewCards x = new ViewCards();
            Due.due("0 at first", x.count(4), 0);
            Due.due(n + " DAYS", x.days(n), n);
            Due.due(n + " DAYS more", x.days(n), 2 * n);
            Due.due("THE DAY", x.count(4), 2 * n);
        }
        for (int n : new int[] {0, 100}) {
            ViewCards x = new ViewCards();
            Due.due(n + " DAYS", x.days(n), OUTSIDE);
            Due.due("no DAY went by", x.count(4), 0);
        }
        for (int rest = 0; rest <= 99; rest++) {
            ViewCards x = new ViewCards();
            for (int i = 0; i < 10; i++) x.days(90);
            if (rest < 99) x.days(99 - rest);
            Due.due("so many went by", x.count(4), 999 - rest);
            if (rest < 99) Due.due("one beyond 999", x.days(rest + 1), OUTSIDE);
            if (rest > 0) Due.due("up to 999", x.days(rest), 999);
            Due.due("no more", x.days(1), OUTSIDE);
            Due.due("999", x.count(4), 999);
        }
    }

    private static void asOf() {
        Due.says("AS OF (999 at first; 0 .. 999): all that is asked is of CARDS told on that day or before (THERE)");
        ViewCards x = new ViewCards();
        x.card(0, 0, 1, 0, TOWN, 0, -1);
        x.days(1);
        x.card(1, 0, 1, 0, TOWN, 0, -1);
        for (int i = 0; i < 10; i++) x.days(99);
        x.days(7);
        x.card(2, 0, 1, 0, TOWN, 0, -1);
        x.days(1);
        x.card(3, 0, 1, 0, TOWN, 0, -1);
        Due.due("all are THERE at first", x.count(1), 4);
        Due.due("999 at first", x.set(1, 0), 999);
        int[][] there = {{0, 1}, {1, 2}, {2, 2}, {997, 2}, {998, 3}, {999, 4}};
        for (int[] t : there) {
            x.set(1, t[0]);
            Due.due("so many THERE as of " + t[0], x.count(1), t[1]);
            Due.due("all in all", x.count(0), 4);
            Due.due("SEEN as of " + t[0], x.of(0, 1), t[1]);
            for (int card = 0; card < 4; card++) {
                Due.due("CARD " + card + " as of " + t[0], x.negative(card), card < t[1] ? 0 : UNKNOWN);
            }
        }
        Due.due("a day before the first", x.set(1, -1), OUTSIDE);
        Due.due("a day beyond 999", x.set(1, 1000), OUTSIDE);
        Due.due("it is as it was", x.set(1, 3), 999);
        Due.due("a CARD is told on THE DAY, whatever AS OF is", x.card(0, 0, 1, 0, TOWN, 0, -1), 4);
        Due.due("and is not THERE", x.negative(4), UNKNOWN);
    }

    private static void nothingIsOfCardsNotThere() {
        Due.says("all that is asked is of CARDS told on that day or before");
        ViewCards x = new ViewCards();
        x.card(0, 0, 3, 0, TOWN, 0, -1);
        x.days(1);
        x.card(1, 0, 6, 0, TOWN, 0, 50);
        x.view(1, 0);
        x.later(1, 0);
        Due.say(x, 1, "mill");
        x.set(1, 0);
        for (int card = 1; card < 3; card++) {
            int[] answers = {
                x.difference(0, card), x.negative(card), x.far(0, card), x.far(card, card), x.match(card, 0), x.of(card, 0),
                x.shows(card, 0, 1), x.later(card, 0), x.span(card, 0, 0), x.view(card, 1), x.unview(card), x.together(card),
                x.caption(card, 97, 1)};
            for (int i = 0; i < answers.length; i++) Due.due("call " + i + " of CARD " + card, answers[i], UNKNOWN);
            Due.due("stood of CARD " + card, x.stood(card), 0);
        }
        Due.due("its NUMBER is in no SERIES", x.series(0, 2), 3);
        Due.due("its POSTED bounds nothing", x.span(0, 0, 1), 20000);
        Due.due("its VIEW is of no NEGATIVE", x.together(0), 64);
        Due.due("a NEGATIVE less", x.count(2), 1);
        x.set(1, 1);
        Due.due("its VIEW is as it was", x.unview(1), 1);
        Due.due("its CAPTION is as it was", x.far(0, 1), 4);
        Due.due("what it shows is as it was", x.shows(1, 0, 2), 2);
        Due.due("no LATER more", x.count(7), 1);
    }

    private static void settings() {
        Due.says("SLACK (0 .. 8; 2 at first), AS OF (0 .. 999; 999 at first), BASE (1 .. 10000; 100 at first)");
        int[][] bounds = {{0, 0, 8, 2}, {1, 0, 999, 999}, {2, 1, 10000, 100}};
        for (int[] b : bounds) {
            ViewCards x = new ViewCards();
            int was = b[3];
            for (int v = b[1]; v <= b[2]; v += Math.max(1, (b[2] - b[1]) / 9)) {
                Due.due("set(" + b[0] + ", " + v + ")", x.set(b[0], v), was);
                was = v;
            }
            Due.due("the most", x.set(b[0], b[2]), was);
            Due.due("one more", x.set(b[0], b[2] + 1), OUTSIDE);
            Due.due("the least", x.set(b[0], b[1]), b[2]);
            Due.due("one less", x.set(b[0], b[1] - 1), OUTSIDE);
            Due.due("refused, it is as it was", x.set(b[0], b[1]), b[1]);
            for (int[] other : bounds) {
                if (other != b) Due.due("the others are as they were", x.set(other[0], other[1]), other[3]);
            }
            Due.due("set(3, 1)", x.set(3, 1), OUTSIDE);
            Due.due("set(-1, 1)", x.set(-1, 1), OUTSIDE);
        }
    }

    // ---- LIKE, DIFFERENCE, NEGATIVES

    private static int cells(int sky, int otherSky, int dx, int dy) {
        int cells = 0;
        for (int x = 0; x < 8; x++) {
            for (int y = 0; y < 8; y++) {
                int u = x + dx, v = y + dy;
                if (u >= 0 && u < 8 && v >= 0 && v < 8 && y >= sky && v >= otherSky) cells++;
            }
        }
        return cells;
    }

    /** A PICTURE that is as the one told in all cells that are in both by the shift, and else is noise. */
    private static long shifted(long picture, long noise, int dx, int dy) {
        return Due.moved(picture, dx, dy) | noise & ~Due.moved(-1, dx, dy);
    }

    private static void shifts() {
        Due.says("a shift (dx, dy), each -2 .. 2, .. in both PICTURES and in no SKY there are 24 or more");
        Random random = new Random(5);
        int fewest = 64, most = 0;
        for (int skies = 0; skies < 25; skies++) {
            int sky = skies / 5, otherSky = skies % 5;
            for (int dx = -3; dx <= 3; dx++) {
                for (int dy = -3; dy <= 3; dy++) {
                    long picture = random.nextLong(), other = shifted(picture, random.nextLong(), dx, dy);
                    ViewCards x = two(picture, sky, other, otherSky);
                    int cells = cells(sky, otherSky, dx, dy);
                    boolean isLike = Math.abs(dx) <= 2 && Math.abs(dy) <= 2 && cells >= 24;
                    if (isLike) fewest = Math.min(fewest, cells);
                    else if (Math.abs(dx) <= 2 && Math.abs(dy) <= 2) most = Math.max(most, cells);
                    String shift = "SKY " + sky + " and " + otherSky + ", shift " + dx + ", " + dy;
                    Due.due(shift + ": as they should be", x.difference(0, 1) == 0 ? 1 : 0, isLike ? 1 : 0);
                    Due.due(shift + ": from the other side", x.difference(1, 0), x.difference(0, 1));
                    x.set(0, 0);
                    Due.due(shift + ": one NEGATIVE", x.negative(1), isLike ? 0 : 1);
                    Due.due(shift + ": they MATCH", x.match(0, 1), isLike ? 1 : 0);
                }
            }
        }
        Due.due("24 cells were among them", fewest, 24);
        Due.due("and 21, the next below", most, 21);
    }

    private static void slack() {
        Due.says("of these SLACK (0 .. 8; 2 at first) at most are otherwise");
        for (int slack = 0; slack <= 8; slack++) {
            for (int flips = 0; flips <= 9; flips++) {
                long other = TOWN;
                for (int i = 0; i < flips; i++) other ^= 1L << 5 * i + 9;
                ViewCards x = two(TOWN, 0, other, 0);
                Due.due("the fewest otherwise", x.difference(0, 1), flips);
                Due.due("SLACK 2 at first", x.negative(1), flips <= 2 ? 0 : 1);
                Due.due("SLACK 2 at first, MATCH", x.match(0, 1), flips <= 2 ? 1 : 0);
                x.set(0, slack);
                Due.due(flips + " otherwise by SLACK " + slack, x.negative(1), flips <= slack ? 0 : 1);
                Due.due(flips + " otherwise by SLACK " + slack + ", MATCH", x.match(0, 1), flips <= slack ? 1 : 0);
                Due.due("NEGATIVES", x.count(2), flips <= slack ? 1 : 2);
                Due.due("SLACK does not change the DIFFERENCE", x.difference(0, 1), flips);
            }
        }
    }

    private static void fewest() {
        Due.says("DIFFERENCE: the fewest that are otherwise by any shift with 24 or more");
        for (int dx = -2; dx <= 2; dx++) {
            for (int dy = -2; dy <= 2; dy++) {
                long other = shifted(TOWN, 0, dx, dy) ^ 7L << 35;
                Due.due("three otherwise by " + dx + ", " + dy, two(TOWN, 0, other, 0).difference(0, 1), 3);
            }
        }
        Due.due("all otherwise in 36 cells, the fewest of any shift", two(-1, 0, 0, 0).difference(0, 1), 36);
        for (int sky = 0; sky <= 4; sky++) {
            int due = 64;
            for (int dx = -2; dx <= 2; dx++) {
                for (int dy = -2; dy <= 2; dy++) {
                    int cells = cells(sky, 0, dx, dy);
                    if (cells >= 24) due = Math.min(due, cells);
                }
            }
            Due.due("all otherwise with SKY " + sky, two(-1, sky, 0, 0).difference(0, 1), due);
            Due.due("all otherwise with SKY " + sky + " of the other", two(0, 0, -1, sky).difference(0, 1), due);
        }
    }

    /** So many CARDS, each with two cells more painted out than the one before. */
    private static ViewCards chain(int... order) {
        ViewCards x = new ViewCards();
        for (int place : order) {
            long picture = TOWN;
            for (int i = 0; i < 2 * place; i++) picture ^= 1L << 5 * i + 9;
            x.card(place % 4, 0, 1, 0, picture, 0, -1);
        }
        return x;
    }

    private static void negatives() {
        Due.says("CARDS LIKE by some shift have one, and so on by chains; a NEGATIVE is told by its least CARD");
        int[][] orders = {{0, 1, 2, 3, 4}, {4, 3, 2, 1, 0}, {2, 0, 4, 1, 3}, {0, 4, 1, 3, 2}, {3, 1, 4, 0, 2}};
        for (int[] order : orders) {
            ViewCards x = chain(order);
            for (int card = 0; card < 5; card++) Due.due("by a chain of four, CARD " + card, x.negative(card), 0);
            Due.due("one NEGATIVE", x.count(2), 1);
            x.set(0, 1);
            for (int card = 0; card < 5; card++) Due.due("none is LIKE, CARD " + card, x.negative(card), card);
            Due.due("five NEGATIVES", x.count(2), 5);
        }
        ViewCards x = chain(0, 2, 3, 1, 5);
        Due.due("the ends are not LIKE", x.difference(0, 2), 6);
        int[] due = {0, 0, 0, 0, 4};
        for (int card = 0; card < 5; card++) Due.due("NEGATIVE of " + card, x.negative(card), due[card]);
        ViewCards y = chain(0, 2, 4, 3);
        int[] other = {0, 1, 1, 1};
        for (int card = 0; card < 4; card++) Due.due("told by its least CARD, " + card, y.negative(card), other[card]);
        ViewCards all = new ViewCards();
        for (int i = 0; i < 20; i++) all.card(0, 0, 1, 0, TOWN, 0, -1);
        Due.due("all twenty", all.negative(19), 0);
        Due.due("one NEGATIVE of twenty", all.count(2), 1);
    }

    // ---- FAR, MATCH, ONE

    private static void far(String one, String other, int due) {
        ViewCards x = told(0, 1);
        Due.say(x, 0, one);
        Due.say(x, 1, other);
        Due.due("'" + one + "' and '" + other + "'", x.far(0, 1), due);
        Due.due("'" + other + "' and '" + one + "'", x.far(1, 0), due);
        Due.due("each from itself", x.far(0, 0) + x.far(1, 1), 0);
        Due.due("they MATCH", x.match(0, 1), due <= 2 ? 1 : 0);
    }

    private static void farOfCaptions() {
        Due.says("FAR: the fewest letters to be put in, left out or changed, each for 1; MATCH: CAPTIONS are FAR 2 at most");
        String word = "abcdefg";
        for (int i = 0; i <= word.length(); i++) {
            far(word, word.substring(0, i) + "x" + word.substring(i), 1);
            if (i < word.length()) far(word, word.substring(0, i) + word.substring(i + 1), 1);
            if (i < word.length()) far(word, word.substring(0, i) + "x" + word.substring(i + 1), 1);
            if (i + 1 < word.length()) {
                far(word, word.substring(0, i) + word.charAt(i + 1) + word.charAt(i) + word.substring(i + 2), 2);
            }
        }
        far("", "", 0);
        far("abcdefgh", "", 8);
        far("abcdefgh", "ijklmnop", 8);
        far("abcdefgh", "hgfedcba", 8);
        far("abcdefgh", "cdefghab", 4);
        far("abcdefgh", "bcdefgha", 2);
        far("mill", "mi", 2);
        far("mill", "m", 3);
        far("", "ab", 2);
        far("", "abc", 3);
        far("sunday", "saturday", 3);
        far("aaaa", "aaaaaaaa", 4);
    }

    /** Whether two CARDS MATCH that are told with LIST, PUBLISHER, NUMBER and BACK. */
    private static void match(String why, int[] one, int[] other, int due) {
        ViewCards x = new ViewCards();
        x.card(one[0], one[1], one[2], one[3], TOWN, 0, -1);
        x.card(other[0], other[1], other[2], other[3], TOWN, 0, -1);
        Due.due(why, x.match(0, 1), due);
        Due.due(why + ", turned", x.match(1, 0), due);
        Due.due(why + ", ONE", x.of(1, 0), due == 1 ? 0 : 1);
        Due.due(why + ", SEEN", x.of(0, 1), due == 1 ? 2 : 1);
        Due.due(why + ", one NEGATIVE in any case", x.negative(1), 0);
    }

    private static void matches() {
        Due.says("Two CARDS of unlike LISTS MATCH, if PUBLISHER and BACK are the same, NUMBERS are the same or one has none");
        for (int one = 0; one < 4; one++) {
            for (int two = 0; two < 4; two++) {
                int[] a = {one, 0, 1, 0}, b = {two, 0, 1, 0};
                match("LISTS " + one + " and " + two, a, b, one == two ? 0 : 1);
            }
        }
        for (int one = 0; one < 5; one++) {
            for (int two = 0; two < 5; two++) {
                int[] a = {0, one, 1, 0}, b = {1, two, 1, 0}, c = {0, 0, 1, one}, d = {1, 0, 1, two};
                match("PUBLISHERS " + one + " and " + two, a, b, one == two ? 1 : 0);
                match("BACKS " + one + " and " + two, c, d, one == two ? 1 : 0);
            }
        }
        int[][] numbers = {{1, 1, 1}, {99, 99, 1}, {1, 2, 0}, {98, 99, 0}, {0, 1, 1}, {99, 0, 1}, {0, 0, 1}, {1, 99, 0}};
        for (int[] n : numbers) match("NUMBERS " + n[0] + " and " + n[1], new int[] {0, 0, n[0], 0}, new int[] {1, 0, n[1], 0}, n[2]);
    }

    private static void one() {
        Due.says("ONE: by chains of MATCHES; told by the least CARD");
        ViewCards x = new ViewCards();
        x.card(0, 0, 5, 0, TOWN, 0, -1);
        x.card(2, 0, 6, 0, TOWN, 0, -1);
        Due.due("NUMBERS are otherwise", x.of(1, 0), 1);
        Due.due("two", x.count(3), 2);
        x.card(1, 0, 0, 0, TOWN, 0, -1);
        Due.due("by one that has none", x.of(1, 0), 0);
        Due.due("though they do not MATCH", x.match(0, 1), 0);
        Due.due("one", x.count(3), 1);
        x.card(0, 0, 6, 0, TOWN, 0, -1);
        Due.due("one more of LIST 0, by the chain", x.of(3, 0), 0);
        Due.due("of one LIST they do not MATCH", x.match(0, 3), 0);
        Due.due("SEEN in three LISTS", x.of(3, 1), 3);
        ViewCards same = told(2, 2, 2);
        for (int card = 0; card < 3; card++) Due.due("of one LIST none is ONE with another", same.of(card, 0), card);
        Due.due("three", same.count(3), 3);
        same.card(0, 0, 1, 0, TOWN, 0, -1);
        for (int card = 0; card < 4; card++) Due.due("ONE by the other LIST", same.of(card, 0), 0);
    }

    private static void rivals() {
        Due.says("RIVALS of a CARD: how many LISTS have two or more CARDS that MATCH it");
        for (int one = 0; one <= 3; one++) {
            for (int two = 0; two <= 3; two++) {
                ViewCards x = told(3);
                for (int i = 0; i < 3; i++) {
                    if (i < one) x.card(0, 0, 1, 0, TOWN, 0, -1);
                    if (i < two) x.card(2, 0, 1, 0, TOWN, 0, -1);
                    x.card(3, 0, 1, 0, TOWN, 0, -1);
                }
                int due = (one >= 2 ? 1 : 0) + (two >= 2 ? 1 : 0);
                Due.due(one + " and " + two + " that MATCH, and three of its own LIST", x.of(0, 2), due);
            }
        }
        ViewCards x = told(0, 1, 1);
        Due.due("RIVALS", x.of(0, 2), 1);
        Due.say(x, 2, "abc");
        Due.due("one of them does not MATCH", x.of(0, 2), 0);
        ViewCards turned = told(1, 1, 0);
        Due.due("the two that MATCH were told before it", turned.of(2, 2), 1);
        Due.due("they have none", turned.of(0, 2), 0);
        ViewCards all = told(0, 1, 1, 2, 2, 3, 3);
        Due.due("three LISTS", all.of(0, 2), 3);
        Due.due("from another LIST", all.of(1, 2), 2);
    }

    private static void seen() {
        Due.says("SEEN: in how many LISTS a CARD (all that are ONE with it) is");
        for (int lists = 1; lists < 16; lists++) {
            ViewCards x = new ViewCards();
            int told = 0;
            for (int list = 3; list >= 0; list--) {
                if ((lists >> list & 1) == 1) {
                    x.card(list, 0, 1, 0, TOWN, 0, -1);
                    x.card(list, 0, 0, 0, TOWN, 0, -1);
                    told += 2;
                }
            }
            for (int card = 0; card < told; card++) Due.due("LISTS " + lists, x.of(card, 1), Integer.bitCount(lists));
        }
    }

    private static void publishersOfANegative() {
        Due.says("of: 4 how many PUBLISHERS its NEGATIVE has");
        ViewCards x = new ViewCards();
        for (int i = 0; i < 10; i++) {
            x.card(i % 4, i / 2, 1, 0, TOWN, 0, -1);
            Due.due("each once", x.of(i, 4), i / 2 + 1);
        }
        x.card(0, 3, 1, 0, 0, 0, -1);
        Due.due("of another NEGATIVE", x.of(10, 4), 1);
        Due.due("PUBLISHERS need not MATCH", x.of(0, 4), 5);
    }

    public static void main(String[] args) {
        numberedFromNought();
        lists();
        publishers();
        numbers();
        backs();
        pictures();
        sky();
        posted();
        captions();
        letters();
        theDay();
        asOf();
        nothingIsOfCardsNotThere();
        settings();
        shifts();
        slack();
        fewest();
        negatives();
        farOfCaptions();
        matches();
        one();
        rivals();
        seen();
        publishersOfANegative();
        Due.end();
    }
}
