/** Promises 22 to 27: where one may have STOOD. */
public final class PlacesTest {
    private static final int UNKNOWN = -2, OUTSIDE = -3, NOT = -4, FULL = -5;
    private static final int LEAST = Integer.MIN_VALUE, MOST = Integer.MAX_VALUE;
    private static final long ALL = -1;

    /** A CARD with a VIEW of LANDMARKS 0, 1, .. in CELLS as told. */
    private static ViewCards viewOf(int... cells) {
        ViewCards x = new ViewCards();
        x.card(0, 0, 1, 0, 0, 0, -1);
        for (int i = 0; i < cells.length; i++) {
            x.landmark(i, cells[i]);
            x.view(0, i);
        }
        return x;
    }

    private static long cell(int x, int y) {
        return 1L << 8 * y + x;
    }

    private static void landmark() {
        ViewCards x = viewOf(9);
        for (int odd : new int[] {-1, 8, LEAST, MOST}) Due.due("landmark(" + odd + ", 0)", x.landmark(odd, 0), UNKNOWN);
        for (int odd : new int[] {-1, 65, LEAST, MOST}) {
            Due.due("landmark(0, " + odd + ")", x.landmark(0, odd), OUTSIDE);
            Due.due("UNKNOWN ahead of OUTSIDE", x.landmark(8, odd), UNKNOWN);
        }
        Due.due("not in its own CELL", x.stood(0), ~(1L << 9));
        Due.due("the last CELL", x.landmark(0, 63), 1);
        Due.due("moved", x.stood(0), ~(1L << 63));
        Due.due("the first CELL", x.landmark(0, 0), 1);
        Due.due("moved again", x.stood(0), ~1L);
        Due.due("in none", x.landmark(0, 64), 1);
        Due.due("not on THE MAP", x.stood(0), 0);
        Due.due("on THE MAP again", x.landmark(0, 5), 1);
        Due.due("LANDMARK 7", x.landmark(7, 6), 1);
        Due.due("those not of the VIEW are nothing", x.stood(0), ~(1L << 5));
        for (int i = 0; i < 8; i++) {
            ViewCards y = new ViewCards();
            y.card(0, 0, 1, 0, 0, 0, -1);
            y.view(0, i);
            Due.due("in none at first", y.stood(0), 0);
        }
    }

    private static void walls() {
        ViewCards x = viewOf();
        Due.due("no WALLS at first", x.stood(0), ALL);
        Due.due("walls", x.walls(0xf0f0L), 1);
        Due.due("not in a WALL", x.stood(0), ~0xf0f0L);
        Due.due("other WALLS", x.walls(1L << 63), 1);
        Due.due("in their stead", x.stood(0), Long.MAX_VALUE);
        Due.due("all WALLS", x.walls(-1), 1);
        Due.due("nowhere", x.stood(0), 0);
        Due.due("none again", x.walls(0), 1);
        Due.due("anywhere", x.stood(0), ALL);
    }

    private static void view() {
        ViewCards x = viewOf();
        for (int odd : new int[] {-1, 1, LEAST, MOST}) Due.due("view(" + odd + ", 0)", x.view(odd, 0), UNKNOWN);
        for (int odd : new int[] {-1, 8, LEAST, MOST}) Due.due("view(0, " + odd + ")", x.view(0, odd), UNKNOWN);
        for (int i = 0; i < 5; i++) Due.due("view(0, " + (7 - i) + ")", x.view(0, 7 - i), i + 1);
        Due.due("NOT ahead of FULL", x.view(0, 7), NOT);
        Due.due("NOT, the last of it", x.view(0, 3), NOT);
        Due.due("a sixth", x.view(0, 0), FULL);
        Due.due("UNKNOWN ahead of FULL", x.view(0, 8), UNKNOWN);
        Due.due("five it had", x.unview(0), 5);
        Due.due("none it had", x.unview(0), 0);
        Due.due("one again", x.view(0, 7), 1);
        x.card(0, 0, 1, 0, -1, 0, -1);
        Due.due("another CARD's is its own", x.view(1, 7), 1);
        Due.due("and stays", x.unview(0), 1);
        Due.due("and stays too", x.unview(1), 1);
        x.days(1);
        x.card(0, 0, 1, 0, -1, 0, -1);
        x.view(2, 4);
        x.set(1, 0);
        Due.due("view of one not THERE", x.view(2, 3), UNKNOWN);
        Due.due("unview of one not THERE", x.unview(2), UNKNOWN);
        Due.due("stood of one not THERE", x.stood(2), 0);
        x.set(1, 1);
        Due.due("its VIEW is as it was", x.unview(2), 1);
        for (int odd : new int[] {-1, 3, LEAST, MOST}) {
            Due.due("unview(" + odd + ")", x.unview(odd), UNKNOWN);
            Due.due("stood(" + odd + ")", x.stood(odd), 0);
        }
    }

    private static void order() {
        // From below the left one is to the left; from above it is turned; in line with both it is neither.
        Due.due("both in the fourth row", viewOf(8 * 3 + 2, 8 * 3 + 5).stood(0), -1L << 32);
        Due.due("turned", viewOf(8 * 3 + 5, 8 * 3 + 2).stood(0), (1L << 24) - 1);
        Due.due("both in the third column", viewOf(8 * 2 + 2, 8 * 6 + 2).stood(0), 0x0303030303030303L);
        Due.due("both in one CELL", viewOf(20, 20).stood(0), 0);
        Due.due("one alone", viewOf(20).stood(0), ~(1L << 20));
        long below = -1L << 32;
        Due.due("three in a row", viewOf(24, 27, 31).stood(0), below);
        Due.due("the middle one to the right", viewOf(24, 31, 27).stood(0), 0);
        // Below the first row, left of the last column, and below the line from corner to corner.
        Due.due("three corners", viewOf(0, 7, 63).stood(0), 0x7f3f1f0f07030100L);
    }

    private static void allAround() {
        // Within the three, each one is to the left of the next, but the first is not to the left of the last.
        int[] three = {8 * 7, 8 * 0 + 3, 8 * 7 + 7};
        ViewCards x = viewOf(three);
        long within = cell(3, 4);
        Due.due("the first two alone turned", viewOf(27, 24, 31).stood(0), 0);
        Due.due("the last two alone turned", viewOf(24, 31, 30).stood(0), 0);
        Due.due("both beside it", viewOf(8 * 2 + 3, 8 * 3 + 4).stood(0) & cell(3, 3), cell(3, 3));
        Due.due("the first and the last", x.stood(0) & within, 0);
        x.unview(0);
        x.view(0, 0);
        x.view(0, 1);
        Due.due("the first and the second", x.stood(0) & within, within);
        x.unview(0);
        x.view(0, 1);
        x.view(0, 2);
        Due.due("the second and the third", x.stood(0) & within, within);
        x.unview(0);
        x.view(0, 2);
        x.view(0, 0);
        Due.due("the third and the first", x.stood(0) & within, within);
    }

    private static void wallsBetween() {
        ViewCards x = viewOf(0);
        x.walls(cell(3, 0));
        Due.due("in a row", x.stood(0), ~1L & ~cell(3, 0) & ~cell(4, 0) & ~cell(5, 0) & ~cell(6, 0) & ~cell(7, 0));
        x.walls(cell(0, 5));
        Due.due("in a column", x.stood(0), ~1L & ~cell(0, 5) & ~cell(0, 6) & ~cell(0, 7));
        x.walls(cell(2, 1));
        Due.due("aslant", x.stood(0), ~1L & ~cell(2, 1) & ~cell(4, 2) & ~cell(6, 3));
        x.walls(cell(2, 2));
        Due.due("across", x.stood(0),
                ~1L & ~cell(2, 2) & ~cell(3, 3) & ~cell(4, 4) & ~cell(5, 5) & ~cell(6, 6) & ~cell(7, 7));
        x.walls(cell(2, 3));
        Due.due("steep", x.stood(0), ~1L & ~cell(2, 3) & ~cell(4, 6));
        x.walls(1);
        Due.due("a WALL in the LANDMARK's own CELL is not between", x.stood(0), ~1L);
        x.landmark(0, 63);
        x.walls(cell(5, 6));
        Due.due("from the other corner", x.stood(0), Long.MAX_VALUE & ~cell(5, 6) & ~cell(3, 5) & ~cell(1, 4));
        x.landmark(0, 7);
        x.walls(cell(4, 3));
        Due.due("from the upper right", x.stood(0), ~cell(7, 0) & ~cell(4, 3) & ~cell(3, 4) & ~cell(2, 5) & ~cell(1, 6) & ~cell(0, 7));
        // Two LANDMARKS above; a WALL hides the right one from two CELLS below.
        x = viewOf(0, 7);
        x.walls(cell(7, 5));
        Due.due("one of two is hidden", x.stood(0), ~255L & ~cell(7, 5) & ~cell(7, 6) & ~cell(7, 7));
    }

    private static void together() {
        ViewCards x = new ViewCards();
        x.card(0, 0, 1, 0, 0, 0, -1);
        x.card(1, 0, 1, 0, 0, 0, -1);
        x.card(2, 0, 1, 0, -1, 0, -1);
        x.days(1);
        x.card(3, 0, 1, 0, 0, 0, -1);
        x.walls(255);
        Due.due("none has a VIEW, whatever the WALLS", x.together(0), 64);
        x.walls(0);
        x.landmark(0, 0);
        x.landmark(1, 7);
        x.landmark(2, 32);
        x.landmark(3, 39);
        x.view(0, 0);
        Due.due("one has a VIEW", x.together(0), 63);
        Due.due("and it is all of the NEGATIVE's", x.together(1), 63);
        Due.due("not of another", x.together(2), 64);
        x.unview(0);
        x.view(0, 0);
        x.view(0, 1);
        Due.due("below the first row", x.together(1), 56);
        x.view(1, 3);
        x.view(1, 2);
        Due.due("and above the fifth", x.together(0), 24);
        x.view(3, 4);
        Due.due("one is not on THE MAP", x.together(0), 0);
        x.set(1, 0);
        Due.due("but it is not THERE", x.together(0), 24);
        Due.due("together of one not THERE", x.together(3), UNKNOWN);
        for (int odd : new int[] {-1, 4, LEAST, MOST}) Due.due("together(" + odd + ")", x.together(odd), UNKNOWN);
    }

    public static void main(String[] args) {
        landmark();
        walls();
        view();
        order();
        allAround();
        wallsBetween();
        together();
        Due.end();
    }
}
