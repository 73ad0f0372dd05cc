import java.util.Arrays;

/** Objects in the midst of their use, and all that can be asked of them, so that no change stays unseen. */
final class World {
    /** What an object is used for at most, and what is asked of it without being noted. */
    private static final int CALLS = 512, MAKING = 125, UNSAID = 8;

    static final long TOWN = Due.picture(
            "#..#.##.",
            ".##..#.#",
            "#.#.#..#",
            "..##.#..",
            "##...##.",
            ".#.##..#",
            "#..#...#",
            ".##.###.");
    private static final long FIELDS = 0x5555aaaa0000ffffL, SEA = 0xff00000000000000L;
    /** CARD 4 is bound by nothing; CARD 5 is told on day 5 and not THERE, for AS OF is 4. */
    static final int FREE = 4, NOT_THERE = 5, TOLD = 6;

    private final long[] answers = new long[CALLS];
    private int size = 0;
    private final ViewCards x;

    private World(ViewCards x) {
        this.x = x;
    }

    /** No QUARREL, two LINES in THE CATALOGUE, three in THE TEXT. */
    static ViewCards ordinary() {
        ViewCards x = new ViewCards();
        x.card(0, 0, 3, 0, TOWN, 0, 300);
        x.card(1, 0, 3, 0, TOWN ^ 1L << 27, 1, -1);
        x.card(1, 0, 0, 0, TOWN, 0, -1);
        x.card(2, 1, 7, 1, FIELDS, 0, -1);
        x.card(3, 2, 0, 4, SEA, 0, -1);
        x.days(5);
        x.card(3, 0, 9, 0, TOWN, 2, 280);
        tellOfCards(x);
        Due.tell(x, "of 0 from 2 to 5 day 60 to 310;of 1 from 5 to 9 back 0");
        x.catalogue();
        Due.tell(x, ";of 0 from 9 to 9 day 200 to 290");
        x.set(0, 3);
        x.set(1, 4);
        x.set(2, 97);
        return x;
    }

    private static void tellOfCards(ViewCards x) {
        Due.say(x, 0, "mill");
        Due.say(x, 1, "mil");
        Due.say(x, 3, "church");
        Due.say(x, NOT_THERE, "hill");
        int[][] features = {{0, 100, 20000}, {1, 0, 250}, {2, 90, 120}, {3, 240, 260}};
        for (int[] f : features) x.feature(f[0], f[1], f[2]);
        int[][] shown = {{0, 0, 1}, {1, 1, 1}, {0, 2, 0}, {2, 3, 0}, {NOT_THERE, 0, 1}, {3, 1, 1}};
        for (int[] s : shown) x.shows(s[0], s[1], s[2]);
        x.back(0, 50, 400);
        x.back(1, 150, 500);
        x.later(1, 0);
        x.later(3, 1);
        x.later(NOT_THERE, 0);
        int[] cells = {0, 7, 32, 39, 20};
        for (int i = 0; i < cells.length; i++) x.landmark(i, cells[i]);
        x.walls(1L << 27 | 1L << 20);
        int[][] views = {{0, 0}, {0, 1}, {1, 3}, {1, 2}, {3, 4}, {NOT_THERE, 4}};
        for (int[] v : views) x.view(v[0], v[1]);
    }

    /** Of all that has an end there is no more: CARDS, LATER, the VIEW of CARD 0, THE TEXT and THE DAYS. */
    static ViewCards full() {
        ViewCards x = ordinary();
        for (int i = TOLD; i < 20; i++) x.card(2, 3, 50, 3, -1, 4, 19000);
        for (int i = 4; i <= 12; i++) x.later(3, 0);
        for (int landmark : new int[] {7, 3, 4}) x.view(0, landmark);
        Due.tell(x, " ".repeat(160 - x.count(5)));
        for (int i = 0; i < 10; i++) x.days(99);
        x.days(4);
        return x;
    }

    /** THE TEXT has a FAULT, and there is a QUARREL without all LINES, of which the first is one of days. */
    static ViewCards faulty() {
        ViewCards x = ordinary();
        x.erase();
        Due.tell(x, "of 1 from 5 to 9 day 3 to 4; of 0 from 3 to 3 back 1");
        x.catalogue();
        Due.tell(x, "; of 5");
        x.back(1, 0, 1);
        return x;
    }

    /** What an object answers to all that can be asked, and to calls that bring out what is hidden. */
    static long[] answers(ViewCards x) {
        World w = new World(x);
        w.askOfAll();
        for (int card = 0; card < TOLD; card++) w.askOfCard(card);
        w.note(x.set(1, 999));
        w.askOfLater();
        w.askSettings();
        w.askPlaces();
        w.askText();
        Due.due("an object answers for so many calls", w.size + UNSAID + MAKING <= CALLS ? 1 : 0, 1);
        return Arrays.copyOf(w.answers, w.size);
    }

    private void note(long answer) {
        answers[size++] = answer;
    }

    private void askOfAll() {
        for (int what = 0; what < 8; what++) note(x.count(what));
        note(x.quarrel());
        note(x.culprit());
        note(x.fault());
        for (int i = 0; i < 3; i++) note(x.breaks(i));
        for (int part = 0; part < 2; part++) note(x.unseen(part));
        for (int one = 0; one < 4; one++) {
            for (int two = one + 1; two < 4; two++) {
                for (int part = 0; part < 2; part++) note(x.overlap(one, two, part));
            }
        }
        for (int publisher = 0; publisher < 2; publisher++) {
            for (int what = 0; what < 5; what++) note(x.series(publisher, what));
            note(x.gap(publisher, 0));
        }
        for (int a = 0; a < 4; a++) {
            for (int b = a + 1; b < 4; b++) {
                note(x.difference(a, b));
                note(x.far(a, b));
                note(x.match(a, b));
            }
        }
    }

    private void askOfCard(int card) {
        note(x.negative(card));
        for (int what = 0; what < 5; what++) note(x.of(card, what));
        for (int i = 0; i < 4; i++) note(x.span(card, i / 2, i % 2));
        note(x.stood(card));
        note(x.together(card));
    }

    /** Also of CARDS that were not THERE. */
    private void askOfLater() {
        for (int a = 0; a < 4; a++) {
            note(x.difference(a, NOT_THERE));
            note(x.far(a, NOT_THERE));
        }
        for (int i = 0; i < 4; i++) note(x.span(NOT_THERE, i / 2, i % 2));
        note(x.stood(NOT_THERE));
        note(x.of(NOT_THERE, 0));
        note(x.of(NOT_THERE, 3));
        note(x.count(2));
        note(x.quarrel());
        note(x.later(2, 0));
    }

    private void askSettings() {
        note(x.set(0, 2));
        note(x.set(2, 100));
        for (int card = 0; card < TOLD; card++) {
            for (int feature = 0; feature < 8; feature++) note(x.shows(card, feature, 2));
        }
        for (int feature = 0; feature < 8; feature++) {
            x.shows(FREE, feature, 1);
            note(x.span(FREE, 0, 0));
            note(x.span(FREE, 0, 1));
            note(x.shows(FREE, feature, 2));
        }
        for (int back = 2; back < 4; back++) {
            int card = x.card(0, 4, 0, back, 0, 0, -1);
            note(card);
            note(x.span(card, 1, 0));
            note(x.span(card, 1, 1));
        }
        note(x.days(1));
    }

    private void askPlaces() {
        for (int card = 0; card < TOLD; card++) note(x.unview(card));
        for (int landmark = 0; landmark < 8; landmark++) {
            note(x.view(FREE, landmark));
            note(x.stood(FREE));
            note(x.unview(FREE));
        }
    }

    private void askText() {
        note(x.catalogue());
        note(x.count(6));
        for (int i = 0; i < 4; i++) note(x.breaks(i));
        note(x.span(FREE, 1, 1));
        note(x.write(59, 1));
        note(x.fault());
        note(x.erase());
    }
}
