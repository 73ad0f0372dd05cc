import java.util.Random;

/** Part 4 of the terms, THE MAP, sentence by sentence, at each bound and just beyond it (promises 22 to 27). */
public final class PlacesTermsTest {
    private static final int UNKNOWN = -2, OUTSIDE = -3, NOT = -4, FULL = -5;
    private static final long ALL = -1;

    /** A CARD with a VIEW of LANDMARKS 0, 1, .. in CELLS as told. */
    private static ViewCards viewOf(int... cells) {
        ViewCards x = new ViewCards();
        x.card(0, 0, 1, 0, 0, 0, -1);
        for (int i = 0; i < cells.length; i++) {
            x.landmark(i, cells[i]);
            x.view(0, i);
        }
        return x;
    }

    private static int at(int x, int y) {
        return 8 * y + x;
    }

    /** How far one lies from another to the left of a third: a d less b c. */
    private static int turn(int cell, int left, int right) {
        int a = left % 8 - cell % 8, b = left / 8 - cell / 8;
        int c = right % 8 - cell % 8, d = right / 8 - cell / 8;
        return a * d - b * c;
    }

    /** Whether a CELL's middle is on the line between two others, both its ends left out. */
    private static boolean isBetween(int cell, int one, int other) {
        boolean isOnLine = turn(one, cell, other) == 0;
        boolean isWithin = cell % 8 >= Math.min(one % 8, other % 8) && cell % 8 <= Math.max(one % 8, other % 8)
                && cell / 8 >= Math.min(one / 8, other / 8) && cell / 8 <= Math.max(one / 8, other / 8);
        return isOnLine && isWithin && cell != one && cell != other;
    }

    private static void landmarks() {
        Due.says("LANDMARKS 0 .. 7 are in a CELL or none (64: in none)");
        for (int landmark = 0; landmark < 8; landmark++) {
            ViewCards x = viewOf();
            Due.due("view(0, " + landmark + ")", x.view(0, landmark), 1);
            Due.due("in none at first", x.stood(0), 0);
            for (int cell = 0; cell < 64; cell++) {
                Due.due("landmark(" + landmark + ", " + cell + ")", x.landmark(landmark, cell), 1);
                Due.due("not in its CELL " + cell, x.stood(0), ~(1L << cell));
                if (cell % 16 == 0) Due.due("in none", x.landmark(landmark, 64), 1);
                if (cell % 16 == 0) Due.due("it is in none", x.stood(0), 0);
            }
            for (int odd : new int[] {-1, 65}) Due.due("CELL " + odd, x.landmark(landmark, odd), OUTSIDE);
            Due.due("it stays in CELL 63", x.stood(0), ~(1L << 63));
        }
        ViewCards x = viewOf();
        for (int odd : new int[] {-1, 8}) {
            Due.due("LANDMARK " + odd, x.landmark(odd, 0), UNKNOWN);
            Due.due("LANDMARK " + odd + " in a VIEW", x.view(0, odd), UNKNOWN);
        }
        Due.due("the VIEW is empty", x.unview(0), 0);
    }

    private static void walls() {
        Due.says("WALLS are a set of CELLS; STOOD in a CELL that has no WALL");
        ViewCards x = viewOf();
        Due.due("no WALLS at first", x.stood(0), ALL);
        for (int cell = 0; cell < 64; cell++) {
            Due.due("a WALL in " + cell, x.walls(1L << cell), 1);
            Due.due("there alone", x.stood(0), ~(1L << cell));
            Due.due("all but " + cell, x.walls(~(1L << cell)), 1);
            Due.due("there alone one may have STOOD", x.stood(0), 1L << cell);
        }
        Due.due("everywhere", x.walls(-1), 1);
        Due.due("nowhere", x.stood(0), 0);
    }

    private static void views() {
        Due.says("A VIEW of a CARD is a row of LANDMARKS from left to right (5 at most); NOT: it is in it; FULL: 5");
        for (int first = 0; first < 8; first++) {
            ViewCards x = viewOf();
            for (int i = 0; i < 5; i++) {
                Due.due("one more", x.view(0, (first + i) % 8), i + 1);
                for (int j = 0; j <= i; j++) Due.due("it is in it", x.view(0, (first + j) % 8), NOT);
            }
            for (int i = 5; i < 8; i++) Due.due("a sixth", x.view(0, (first + i) % 8), FULL);
            Due.due("five it had", x.unview(0), 5);
            Due.due("none it had", x.unview(0), 0);
            Due.due("the first of a new one", x.view(0, first), 1);
            Due.due("one it had", x.unview(0), 1);
        }
        ViewCards all = new ViewCards();
        for (int i = 0; i < 20; i++) all.card(0, 0, 1, 0, 0, 0, -1);
        for (int card = 0; card < 20; card++) {
            for (int i = 0; i < card % 6; i++) Due.due("CARD " + card, all.view(card, (card + i) % 8), i + 1);
        }
        for (int card = 0; card < 20; card++) Due.due("CARD " + card + " had", all.unview(card), card % 6);
        for (int odd : new int[] {-1, 20}) {
            Due.due("view of CARD " + odd, all.view(odd, 0), UNKNOWN);
            Due.due("unview of CARD " + odd, all.unview(odd), UNKNOWN);
        }
    }

    private static void fiveInAView() {
        Due.says("(5 at most) .. for each LANDMARK and the next one, and for the first and the last");
        int[] row = {at(1, 1), at(2, 1), at(3, 1), at(4, 1), at(5, 1)};
        int cell = at(3, 7);
        Due.due("five in their order", viewOf(row).stood(0) >> cell & 1, 1);
        for (int i = 0; i + 1 < 5; i++) {
            int[] turned = row.clone();
            turned[i] = row[i + 1];
            turned[i + 1] = row[i];
            Due.due("only " + i + " and the next one turned", viewOf(turned).stood(0) >> cell & 1, 0);
        }
        // Each is to the left of the next one, but together they are more than half around.
        int[] around = {at(2, 6), at(1, 3), at(4, 1), at(6, 4), at(5, 6)};
        int within = at(4, 5);
        for (int i = 0; i + 1 < 5; i++) Due.due("to the left of the next one", turn(within, around[i], around[i + 1]) > 0 ? 1 : 0, 1);
        Due.due("the first and the last", viewOf(around).stood(0) >> within & 1, 0);
        Due.due("without the last", viewOf(around[0], around[1], around[2], around[3]).stood(0) >> within & 1,
                turn(within, around[0], around[3]) > 0 ? 1 : 0);
        Due.due("the middle three", viewOf(around[1], around[2], around[3]).stood(0) >> within & 1, 1);
    }

    private static long expected(long walls, int... cells) {
        long found = 0;
        for (int cell = 0; cell < 64; cell++) {
            boolean may = (walls >> cell & 1) == 0;
            for (int i = 0; i < cells.length; i++) {
                may &= cells[i] != cell;
                for (int wall = 0; wall < 64; wall++) {
                    if ((walls >> wall & 1) == 1 && isBetween(wall, cell, cells[i])) may = false;
                }
                if (i + 1 < cells.length) may &= turn(cell, cells[i], cells[i + 1]) > 0;
            }
            if (cells.length >= 2) may &= turn(cell, cells[0], cells[cells.length - 1]) > 0;
            if (may) found |= 1L << cell;
        }
        return found;
    }

    private static void order() {
        Due.says("with (a, b), (c, d) being how far x and y of both are from the CELL: a d less b c is above 0");
        for (int left = 0; left < 64; left++) {
            for (int right = 0; right < 64; right++) {
                Due.due("LANDMARKS in " + left + " and " + right, viewOf(left, right).stood(0), expected(0, left, right));
            }
        }
        Due.due("y grows downward: from below, left is left", viewOf(at(2, 3), at(5, 3)).stood(0), -1L << 32);
        Due.due("in line with both it is 0", viewOf(at(3, 1), at(3, 4)).stood(0) >> at(3, 7) & 1, 0);
        Due.due("beside the line it is above 0", viewOf(at(3, 1), at(3, 4)).stood(0) >> at(2, 7) & 1, 1);
        Due.due("on the other side it is below 0", viewOf(at(3, 1), at(3, 4)).stood(0) >> at(4, 7) & 1, 0);
        Due.due("one LANDMARK has no order", viewOf(9).stood(0), ~(1L << 9));
    }

    private static void landmarksInTheWay() {
        Due.says("a CELL that has no WALL and no LANDMARK of the VIEW, if all of it are on THE MAP");
        ViewCards x = viewOf(at(0, 0), at(7, 0));
        x.landmark(5, at(3, 3));
        Due.due("a LANDMARK that is not of the VIEW", x.stood(0) >> at(3, 3) & 1, 1);
        Due.due("it hides nothing", x.stood(0), -1L << 8);
        x.view(0, 5);
        Due.due("it is of the VIEW", x.stood(0) >> at(3, 3) & 1, 0);
        for (int missing = 0; missing < 5; missing++) {
            int[] row = {at(1, 1), at(2, 1), at(3, 1), at(4, 1), at(5, 1)};
            ViewCards y = viewOf(row);
            Due.due("all are on THE MAP", y.stood(0) != 0 ? 1 : 0, 1);
            y.landmark(missing, 64);
            Due.due("LANDMARK " + missing + " is not on THE MAP", y.stood(0), 0);
            y.landmark(missing, row[missing]);
            y.landmark(7, 64);
            Due.due("one that is not of the VIEW need not be", y.stood(0) != 0 ? 1 : 0, 1);
        }
        // What was in a VIEW before is not of it.
        ViewCards z = viewOf(at(0, 0), at(7, 0));
        z.unview(0);
        z.view(0, 1);
        z.landmark(0, 64);
        Due.due("LANDMARK 0 is no more of it", z.stood(0), ~(1L << 7));
        z.landmark(0, at(0, 0));
        z.walls(1L << at(0, 3));
        Due.due("a WALL before it hides nothing", z.stood(0), ~(1L << 7 | 1L << at(0, 3)));
    }

    private static void wallsBetween() {
        Due.says("between it and each of them no CELL whose middle is just on the line has a WALL");
        for (int landmark = 0; landmark < 64; landmark++) {
            ViewCards x = viewOf(landmark);
            for (int wall = 0; wall < 64; wall++) {
                x.walls(1L << wall);
                Due.due("LANDMARK in " + landmark + ", WALL in " + wall, x.stood(0), expected(1L << wall, landmark));
            }
        }
        ViewCards x = viewOf(at(0, 0));
        x.walls(1L << at(1, 1));
        Due.due("just on the line", x.stood(0) >> at(2, 2) & 1, 0);
        Due.due("beside the line", x.stood(0) >> at(3, 2) & 1, 1);
        Due.due("behind the CELL", x.stood(0) >> at(0, 1) & 1, 1);
        x.walls(1L << at(0, 0));
        Due.due("the LANDMARK's own CELL is not between", x.stood(0), ~1L);
    }

    private static void wallsBeforeEachOfThem() {
        Due.says("between it and each of them");
        int[] row = {at(0, 0), at(2, 0), at(4, 0), at(6, 0), at(7, 0)};
        int cell = at(4, 6);
        int[] hiddenAlone = new int[5];
        ViewCards five = viewOf(row);
        Due.due("none is hidden", five.stood(0) >> cell & 1, 1);
        for (int wall = 0; wall < 64; wall++) {
            if (wall == cell) continue;
            five.walls(1L << wall);
            int hidden = 0, last = 0;
            for (int i = 0; i < 5; i++) {
                if (isBetween(wall, cell, row[i])) {
                    hidden++;
                    last = i;
                }
            }
            Due.due("a WALL in " + wall, five.stood(0) >> cell & 1, hidden > 0 ? 0 : 1);
            if (hidden == 1) hiddenAlone[last]++;
        }
        for (int i = 0; i < 5; i++) Due.due("each was hidden alone, " + i, hiddenAlone[i] > 0 ? 1 : 0, 1);
        Random random = new Random(11);
        for (int run = 0; run < 300; run++) {
            int[] cells = new int[1 + random.nextInt(5)];
            for (int i = 0; i < cells.length; i++) cells[i] = random.nextInt(64);
            long walls = random.nextLong() & random.nextLong() & random.nextLong();
            ViewCards x = viewOf(cells);
            x.walls(walls);
            Due.due("any VIEW and WALLS " + walls, x.stood(0), expected(walls, cells));
        }
    }

    private static void stoodOfNone() {
        Due.says("stood: (0 of a CARD that is not there, too.)");
        ViewCards x = viewOf();
        for (int odd : new int[] {-1, 1, 20, Integer.MIN_VALUE, Integer.MAX_VALUE}) Due.due("stood(" + odd + ")", x.stood(odd), 0);
        x.days(1);
        x.card(0, 0, 1, 0, -1, 0, -1);
        Due.due("it is THERE", x.stood(1), ALL);
        x.set(1, 0);
        Due.due("it is told later", x.stood(1), 0);
        Due.due("the other one is THERE", x.stood(0), ALL);
    }

    private static void together() {
        Due.says("together: for all CARDS (THERE) of a CARD's NEGATIVE that have a VIEW together (64, if none has)");
        ViewCards x = new ViewCards();
        for (int i = 0; i < 19; i++) x.card(0, 0, 1, 0, World.TOWN, 0, -1);
        x.card(0, 0, 1, 0, 0, 0, -1);
        x.walls(0xffL);
        for (int card = 0; card < 20; card++) Due.due("none has a VIEW", x.together(card), 64);
        x.landmark(0, 8);
        for (int card = 0; card < 19; card++) {
            x.view(card, 0);
            Due.due("one has", x.together((card + 7) % 19), 55);
            Due.due("not of its NEGATIVE", x.together(19), 64);
            x.unview(card);
        }
        x.walls(0);
        for (int i = 0; i < 8; i++) x.landmark(i, 8 * i);
        for (int card = 0; card < 8; card++) {
            x.view(card, card);
            Due.due("CELLS of all together", x.together(18), 63 - card);
        }
        x.view(19, 0);
        Due.due("of the other NEGATIVE", x.together(19), 63);
        x.landmark(7, 64);
        Due.due("one is not on THE MAP", x.together(0), 0);
        for (int odd : new int[] {-1, 20}) Due.due("together(" + odd + ")", x.together(odd), UNKNOWN);
    }

    private static void togetherThere() {
        Due.says("together: for all CARDS (THERE)");
        ViewCards x = viewOf(0, 7);
        x.days(1);
        x.card(1, 0, 1, 0, 0, 0, -1);
        x.landmark(2, 63);
        x.view(1, 2);
        Due.due("both", x.together(0), 55);
        x.set(1, 0);
        Due.due("the first alone", x.together(0), 56);
        Due.due("the other is not THERE", x.together(1), UNKNOWN);
    }

    public static void main(String[] args) {
        landmarks();
        walls();
        views();
        fiveInAView();
        order();
        landmarksInTheWay();
        wallsBetween();
        wallsBeforeEachOfThem();
        stoodOfNone();
        together();
        togetherThere();
        Due.end();
    }
}
