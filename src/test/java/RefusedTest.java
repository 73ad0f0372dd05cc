import java.util.Arrays;

/**
 * "Refused, and nothing changes: UNKNOWN, OUTSIDE, NOT, FULL: the first of these that fits", of every
 * call by itself, with one argument odd and with every two of them odd, and for all answers after it.
 */
public final class RefusedTest {
    private static final int UNKNOWN = -2, OUTSIDE = -3, NOT = -4, FULL = -5;
    private static final int LEAST = Integer.MIN_VALUE, MOST = Integer.MAX_VALUE;
    private static final int ORDINARY = 0, AT_ITS_END = 1, WITH_FAULTS = 2;
    private static final long[][] UNTOUCHED = new long[3][];

    private interface Call {
        long of(ViewCards x, int[] a);
    }

    /** An argument that is refused, and how. */
    private record Odd(int argument, int value, int refusal) { }

    private static ViewCards world(int which) {
        return which == ORDINARY ? World.ordinary() : which == AT_ITS_END ? World.full() : World.faulty();
    }

    private static void refuses(int which, String name, Call call, int[] arguments, long due) {
        ViewCards x = world(which);
        String told = name + Arrays.toString(arguments) + " in world " + which;
        Due.due(told, call.of(x, arguments), due);
        Due.due(told + ": nothing has changed", Arrays.equals(World.answers(x), UNTOUCHED[which]) ? 1 : 0, 1);
    }

    private static int[] with(int[] good, Odd... odds) {
        int[] arguments = good.clone();
        for (Odd odd : odds) arguments[odd.argument] = odd.value;
        return arguments;
    }

    /** Every odd argument, and every two of them: the first refusal has the greatest number. */
    private static void refusesAll(int which, String name, Call call, int[] good, Odd... odds) {
        for (Odd one : odds) {
            refuses(which, name, call, with(good, one), one.refusal);
            for (Odd two : odds) {
                if (one.argument < two.argument) {
                    refuses(which, name, call, with(good, one, two), Math.max(one.refusal, two.refusal));
                }
            }
        }
    }

    private static Odd[] odd(int argument, int refusal, int... values) {
        Odd[] odds = new Odd[values.length];
        for (int i = 0; i < values.length; i++) odds[i] = new Odd(argument, values[i], refusal);
        return odds;
    }

    /** What is not from the least to the greatest: just beyond, and as far beyond as can be. */
    private static Odd[] not(int least, int greatest, int argument, int refusal) {
        return odd(argument, refusal, least - 1, greatest + 1, LEAST, MOST);
    }

    /** No such CARD: below 0, behind the last, and told but not THERE. */
    private static Odd[] noCard(int argument) {
        return odd(argument, UNKNOWN, -1, World.TOLD, LEAST, MOST, World.NOT_THERE, 20);
    }

    private static Odd[] all(Odd[]... parts) {
        int size = 0;
        for (Odd[] part : parts) size += part.length;
        Odd[] odds = new Odd[size];
        size = 0;
        for (Odd[] part : parts) {
            System.arraycopy(part, 0, odds, size, part.length);
            size += part.length;
        }
        return odds;
    }

    private static void cards() {
        Due.says("Promise 2: UNKNOWN: LIST, PUBLISHER, BACK; OUTSIDE: NUMBER, SKY, POSTED; FULL");
        Call card = (x, a) -> x.card(a[0], a[1], a[2], a[3], World.TOWN, a[4], a[5]);
        Odd[] odds = all(not(0, 3, 0, UNKNOWN), not(0, 4, 1, UNKNOWN), not(0, 99, 2, OUTSIDE), not(0, 4, 3, UNKNOWN),
                not(0, 4, 4, OUTSIDE), not(-1, 20000, 5, OUTSIDE));
        int[] good = {0, 0, 1, 0, 0, -1};
        refusesAll(ORDINARY, "card", card, good, odds);
        refusesAll(AT_ITS_END, "card", card, good, odds);
        refuses(AT_ITS_END, "card", card, good, FULL);

        Due.says("Promise 3: UNKNOWN; OUTSIDE: a byte that is none of a .. z");
        Call caption = (x, a) -> x.caption(a[0], a[1] | (long) a[1] << 32, a[2]);
        refusesAll(ORDINARY, "caption", caption, new int[] {1, 0x61626364, 8},
                all(noCard(0), odd(1, OUTSIDE, 0x61626360, 0x7b626364, 0x61416364, -1, 0), not(0, 8, 2, OUTSIDE)));

        Due.says("Promise 4: n DAYS (1 .. 99); OUTSIDE: also beyond 999");
        Call days = (x, a) -> x.days(a[0]);
        refusesAll(ORDINARY, "days", days, new int[] {1}, not(1, 99, 0, OUTSIDE));
        refusesAll(AT_ITS_END, "days", days, new int[] {1}, odd(0, OUTSIDE, 1, 2, 99, 0, 100, LEAST, MOST));

        Due.says("Promise 5: SLACK, AS OF (0 .. 999), BASE; OUTSIDE");
        Call set = (x, a) -> x.set(a[0], a[1]);
        refusesAll(ORDINARY, "set", set, new int[] {0, 1}, all(not(0, 2, 0, OUTSIDE), not(0, 8, 1, OUTSIDE)));
        refusesAll(ORDINARY, "set", set, new int[] {1, 1}, all(not(0, 2, 0, OUTSIDE), not(0, 999, 1, OUTSIDE)));
        refusesAll(ORDINARY, "set", set, new int[] {2, 1}, all(not(0, 2, 0, OUTSIDE), not(1, 10000, 1, OUTSIDE)));
    }

    private static void askingOfCards() {
        Due.says("Promises 6 and 9: UNKNOWN: also one and itself");
        Odd[] pairs = all(noCard(0), noCard(1));
        Call difference = (x, a) -> x.difference(a[0], a[1]);
        Call match = (x, a) -> x.match(a[0], a[1]);
        refusesAll(ORDINARY, "difference", difference, new int[] {0, 1}, pairs);
        refusesAll(ORDINARY, "match", match, new int[] {0, 1}, pairs);
        for (int card = 0; card < World.NOT_THERE; card++) {
            refuses(ORDINARY, "difference", difference, new int[] {card, card}, UNKNOWN);
            refuses(ORDINARY, "match", match, new int[] {card, card}, UNKNOWN);
        }
        Due.says("Promises 7 and 8: UNKNOWN");
        refusesAll(ORDINARY, "negative", (x, a) -> x.negative(a[0]), new int[] {0}, noCard(0));
        refusesAll(ORDINARY, "far", (x, a) -> x.far(a[0], a[1]), new int[] {0, 1}, pairs);
        Due.says("Promise 10: UNKNOWN; OUTSIDE");
        refusesAll(ORDINARY, "of", (x, a) -> x.of(a[0], a[1]), new int[] {0, 0}, all(noCard(0), not(0, 4, 1, OUTSIDE)));
    }

    private static void series() {
        Due.says("Promise 11: UNKNOWN; OUTSIDE");
        refusesAll(ORDINARY, "series", (x, a) -> x.series(a[0], a[1]), new int[] {0, 0},
                all(not(0, 4, 0, UNKNOWN), not(0, 4, 1, OUTSIDE)));
        Due.says("Promise 12: UNKNOWN; OUTSIDE: i below 0");
        refusesAll(ORDINARY, "gap", (x, a) -> x.gap(a[0], a[1]), new int[] {0, 0},
                all(not(0, 4, 0, UNKNOWN), odd(1, OUTSIDE, -1, LEAST)));
        Due.says("Promise 13: OUTSIDE");
        refusesAll(ORDINARY, "unseen", (x, a) -> x.unseen(a[0]), new int[] {0}, not(0, 1, 0, OUTSIDE));
        Due.says("Promise 14: UNKNOWN: also one and itself; OUTSIDE");
        Call overlap = (x, a) -> x.overlap(a[0], a[1], a[2]);
        refusesAll(ORDINARY, "overlap", overlap, new int[] {0, 1, 0},
                all(not(0, 3, 0, UNKNOWN), not(0, 3, 1, UNKNOWN), not(0, 2, 2, OUTSIDE)));
        for (int list = 0; list < 4; list++) {
            for (int part : new int[] {-1, 0, 1, 2, 3}) refuses(ORDINARY, "overlap", overlap, new int[] {list, list, part}, UNKNOWN);
        }
    }

    private static void days() {
        Due.says("Promise 15: UNKNOWN; OUTSIDE");
        Call feature = (x, a) -> x.feature(a[0], a[1], a[2]);
        Odd[] days = all(not(0, 20000, 1, OUTSIDE), not(0, 20000, 2, OUTSIDE), odd(1, OUTSIDE, 10001, 20000),
                odd(2, OUTSIDE, 0, 9999));
        refusesAll(ORDINARY, "feature", feature, new int[] {0, 10000, 10000}, all(not(0, 7, 0, UNKNOWN), days));
        refusesAll(ORDINARY, "feature", feature, new int[] {7, 10000, 10000}, days);
        Due.says("Promise 16: UNKNOWN; OUTSIDE");
        Call shows = (x, a) -> x.shows(a[0], a[1], a[2]);
        refusesAll(ORDINARY, "shows", shows, new int[] {0, 0, 2},
                all(noCard(0), not(0, 7, 1, UNKNOWN), not(0, 2, 2, OUTSIDE)));
        Due.says("Promise 17: UNKNOWN; OUTSIDE");
        Call back = (x, a) -> x.back(a[0], a[1], a[2]);
        refusesAll(ORDINARY, "back", back, new int[] {0, 10000, 10000}, all(not(0, 4, 0, UNKNOWN), days));
        refusesAll(ORDINARY, "back", back, new int[] {2, 10000, 10000}, days);
        Due.says("Promise 18: UNKNOWN: also one and itself; FULL");
        Call later = (x, a) -> x.later(a[0], a[1]);
        for (int which : new int[] {ORDINARY, AT_ITS_END}) {
            Odd[] pairs = which == ORDINARY ? all(noCard(0), noCard(1))
                    : all(odd(0, UNKNOWN, -1, 20, LEAST, MOST, World.NOT_THERE), odd(1, UNKNOWN, -1, 20, World.NOT_THERE));
            refusesAll(which, "later", later, new int[] {2, 0}, pairs);
            for (int card = 0; card < World.NOT_THERE; card++) refuses(which, "later", later, new int[] {card, card}, UNKNOWN);
        }
        refuses(AT_ITS_END, "later", later, new int[] {2, 0}, FULL);
        refuses(AT_ITS_END, "later", later, new int[] {3, 0}, FULL);
        Due.says("Promise 19: UNKNOWN; OUTSIDE");
        for (int which : new int[] {ORDINARY, WITH_FAULTS}) {
            refusesAll(which, "span", (x, a) -> x.span(a[0], a[1], a[2]), new int[] {0, 0, 0},
                    all(noCard(0), not(0, 1, 1, OUTSIDE), not(0, 1, 2, OUTSIDE)));
        }
    }

    private static void places() {
        Due.says("Promise 22: UNKNOWN; OUTSIDE");
        refusesAll(ORDINARY, "landmark", (x, a) -> x.landmark(a[0], a[1]), new int[] {0, 1},
                all(not(0, 7, 0, UNKNOWN), not(0, 64, 1, OUTSIDE)));
        Due.says("Promise 24: UNKNOWN; NOT: it is in it; FULL: 5");
        Call view = (x, a) -> x.view(a[0], a[1]);
        for (int which : new int[] {ORDINARY, AT_ITS_END}) {
            Odd[] odds = all(odd(0, UNKNOWN, -1, 20, LEAST, MOST, World.NOT_THERE), not(0, 7, 1, UNKNOWN));
            refusesAll(which, "view", view, new int[] {0, 5}, odds);
            refuses(which, "view", view, new int[] {0, 0}, NOT);
            refuses(which, "view", view, new int[] {0, 1}, NOT);
            refuses(which, "view", view, new int[] {World.NOT_THERE, 4}, UNKNOWN);
        }
        refuses(AT_ITS_END, "view", view, new int[] {0, 4}, NOT);
        for (int landmark : new int[] {2, 5, 6}) refuses(AT_ITS_END, "view", view, new int[] {0, landmark}, FULL);
        Due.says("Promises 25 and 27: UNKNOWN");
        refusesAll(ORDINARY, "unview", (x, a) -> x.unview(a[0]), new int[] {0}, noCard(0));
        refusesAll(ORDINARY, "together", (x, a) -> x.together(a[0]), new int[] {0}, noCard(0));
        Due.says("Promise 26: 0 of a CARD that is not there, too");
        for (Odd odd : noCard(0)) refuses(ORDINARY, "stood", (x, a) -> x.stood(a[0]), new int[] {odd.value}, 0);
    }

    private static void catalogues() {
        Due.says("Promise 28: OUTSIDE; FULL");
        Call write = (x, a) -> x.write(0x6161616161616161L, a[0]);
        refusesAll(ORDINARY, "write", write, new int[] {1}, not(1, 8, 0, OUTSIDE));
        refusesAll(AT_ITS_END, "write", write, new int[] {1}, not(1, 8, 0, OUTSIDE));
        for (int n = 1; n <= 8; n++) refuses(AT_ITS_END, "write", write, new int[] {n}, FULL);
        Due.says("Promise 31: NOT: it has a FAULT");
        refuses(WITH_FAULTS, "catalogue", (x, a) -> x.catalogue(), new int[0], NOT);
        Due.says("Promise 32: UNKNOWN; NOT: a LINE of days, and there is a QUARREL without all LINES");
        Call breaks = (x, a) -> x.breaks(a[0]);
        for (int which : new int[] {ORDINARY, WITH_FAULTS}) refusesAll(which, "breaks", breaks, new int[] {0}, not(0, 1, 0, UNKNOWN));
        refuses(WITH_FAULTS, "breaks", breaks, new int[] {0}, NOT);
        Due.says("Promise 33: OUTSIDE");
        refusesAll(ORDINARY, "count", (x, a) -> x.count(a[0]), new int[] {0}, not(0, 7, 0, OUTSIDE));
    }

    /** What is asked without being refused changes nothing either. */
    private static void asking() {
        Due.says("asking changes nothing");
        int[] none = new int[0];
        for (int which = ORDINARY; which <= WITH_FAULTS; which++) {
            ViewCards asked = world(which);
            Call[] calls = {
                (x, a) -> x.difference(0, 3), (x, a) -> x.negative(2), (x, a) -> x.far(0, 3), (x, a) -> x.match(0, 1),
                (x, a) -> x.of(0, 3), (x, a) -> x.of(2, 4), (x, a) -> x.series(1, 3), (x, a) -> x.gap(0, 0), (x, a) -> x.unseen(0),
                (x, a) -> x.overlap(0, 1, 1), (x, a) -> x.span(1, 1, 0), (x, a) -> x.quarrel(), (x, a) -> x.culprit(),
                (x, a) -> x.stood(0), (x, a) -> x.together(0), (x, a) -> x.fault(), (x, a) -> x.breaks(1), (x, a) -> x.count(3)};
            for (int i = 0; i < calls.length; i++) refuses(which, "question " + i + " ", calls[i], none, calls[i].of(asked, none));
        }
    }

    /** If the answers did not tell what has changed, the tests above would say nothing. */
    private static void answersTellEveryChange() {
        Due.says("the answers tell every change");
        Call[] changes = {
            (x, a) -> x.card(0, 4, 1, 0, 0, 0, -1), (x, a) -> Due.say(x, 0, "milla"), (x, a) -> Due.say(x, 2, "m"),
            (x, a) -> x.days(1), (x, a) -> x.set(0, 4), (x, a) -> x.set(1, 5), (x, a) -> x.set(1, 3), (x, a) -> x.set(2, 96),
            (x, a) -> x.shows(0, 5, 0), (x, a) -> x.shows(World.FREE, 7, 1), (x, a) -> x.later(2, 0), (x, a) -> x.walls(1),
            (x, a) -> x.walls(1L << 27 | 1L << 20 | 1L << 63), (x, a) -> x.view(0, 7), (x, a) -> x.view(2, 1),
            (x, a) -> x.unview(1), (x, a) -> x.write(32, 1), (x, a) -> x.erase(), (x, a) -> x.catalogue()};
        for (int i = 0; i < changes.length; i++) tells("change " + i, changes[i]);
        for (int i = 0; i < 8; i++) {
            int one = i;
            tells("feature " + i + " from", (x, a) -> x.feature(one, 98, 20000));
            tells("feature " + i + " to", (x, a) -> x.feature(one, 0, 249));
            tells("landmark " + i, (x, a) -> x.landmark(one, 11));
            tells("landmark " + i + " in another", (x, a) -> x.landmark(one, 63));
        }
        for (int i = 0; i < 5; i++) {
            int one = i;
            tells("back " + i + " from", (x, a) -> x.back(one, 151, 20000));
            tells("back " + i + " to", (x, a) -> x.back(one, 0, 299));
        }
    }

    private static void tells(String change, Call call) {
        ViewCards x = World.ordinary();
        Due.due(change + " is taken", call.of(x, new int[0]) >= 0 ? 1 : 0, 1);
        Due.due(change + " is told", Arrays.equals(World.answers(x), UNTOUCHED[ORDINARY]) ? 1 : 0, 0);
    }

    private static void worlds() {
        Due.says("the worlds are as they should be");
        Due.due("ordinary: no QUARREL", World.ordinary().quarrel(), 0);
        Due.due("faulty: a QUARREL", World.faulty().quarrel(), 1);
        Due.due("faulty: two LINES", World.faulty().count(6), 2);
        int[] ends = {20, 160, 12, 999};
        int[] what = {0, 5, 7, 4};
        for (int i = 0; i < 4; i++) Due.due("full: count(" + what[i] + ")", World.full().count(what[i]), ends[i]);
        for (int which = ORDINARY; which <= WITH_FAULTS; which++) {
            UNTOUCHED[which] = World.answers(world(which));
            Due.due("the same again", Arrays.equals(World.answers(world(which)), UNTOUCHED[which]) ? 1 : 0, 1);
        }
    }

    public static void main(String[] args) {
        worlds();
        answersTellEveryChange();
        cards();
        askingOfCards();
        series();
        days();
        places();
        catalogues();
        asking();
        Due.end();
    }
}
