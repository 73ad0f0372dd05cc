import java.util.Random;

/** Long runs of calls, always the same ones, held against the plain model. */
public final class RandomRunsTest {
    private static final int RUNS = 150, CALLS = 512, MOST_AT_ONCE = 40;

    private final Random random;
    private final ViewCards x = new ViewCards();
    private final PlainModel m = new PlainModel();
    private final long[] pictures = new long[3];
    private final int wrongness;
    private final int numbers;
    private final int time;
    private final int[] weights = new int[34];
    /** Whether CARDS are mostly alike, and whether spans are mostly wide and LATER without rings. */
    private final boolean isAlike, isMild;
    private int cards = 0;
    private int calls = 0;

    private RandomRunsTest(long seed) {
        random = new Random(seed);
        for (int i = 0; i < pictures.length; i++) pictures[i] = random.nextLong() & random.nextLong();
        wrongness = 10 + random.nextInt(200);
        numbers = 2 + random.nextInt(14);
        time = random.nextInt(3) == 0 ? 20001 : 30 + random.nextInt(400);
        for (int i = 0; i < weights.length; i++) weights[i] = 1 + random.nextInt(6);
        isAlike = seed % 2 == 0;
        isMild = seed % 3 != 0;
        int[][] themes = {{6, 15}, {15, 22}, {22, 28}, {28, 33}, {0, 34}};
        int[] theme = themes[(int) (seed % themes.length)];
        for (int i = theme[0]; i < theme[1]; i++) weights[i] *= 4;
        // Without CARDS there is little to ask; walls and empty views end much of what was built up.
        weights[0] = 0;
        weights[2] = 12;
        weights[4] = 1;
        weights[23] = 1;
        weights[25] = 1;
    }

    /** A value below the bound, now and then one that is not as told. */
    private int below(int bound) {
        if (random.nextInt(wrongness) == 0) {
            int[] odd = {-1, bound, bound + 1, Integer.MIN_VALUE, Integer.MAX_VALUE, -2};
            return odd[random.nextInt(odd.length)];
        }
        return random.nextInt(bound);
    }

    private int someCard() {
        return below(Math.max(1, cards));
    }

    private int someDay() {
        return below(time);
    }

    private int someStart() {
        return isMild ? someDay() / 8 : someDay() / 2;
    }

    private int someEnd() {
        int day = someDay();
        return isMild && day >= 0 && day < time ? time - 1 - day / 8 : day;
    }

    private long somePicture() {
        long picture = pictures[random.nextInt(pictures.length)];
        if (isAlike && random.nextInt(4) > 0) picture = pictures[0];
        if (!isAlike || random.nextInt(4) == 0) picture = Due.moved(picture, random.nextInt(5) - 2, random.nextInt(5) - 2);
        int flips = isAlike ? random.nextInt(3) : random.nextInt(4);
        for (int i = 0; i < flips; i++) picture ^= 1L << random.nextInt(64);
        return picture;
    }

    private int tellCard() {
        int list = below(4), publisher = random.nextInt(3) == 0 ? below(5) : 0, back = random.nextInt(4) == 0 ? below(5) : 0;
        int number = random.nextInt(6) == 0 ? 0 : 1 + below(numbers);
        long picture = somePicture();
        int sky = random.nextInt(3) == 0 ? below(5) : 0;
        int posted = random.nextInt(3) == 0 ? someDay() : -1;
        if (isMild && posted >= 0 && posted < time) posted = time - 1 - posted / 6;
        int due = m.card(list, publisher, number, back, picture, sky, posted);
        Due.due("card", x.card(list, publisher, number, back, picture, sky, posted), due);
        if (due >= 0) cards = due + 1;
        return due;
    }

    private void tellCaption() {
        String[] words = {"mill", "mil", "mmil", "milly", "church", "churches", "", "hill", "bridge"};
        String word = words[random.nextInt(isAlike ? 4 : words.length)];
        long bytes = Due.word(word) | (random.nextInt(wrongness) == 0 ? random.nextLong() : 0);
        int card = someCard(), n = random.nextInt(8) == 0 ? below(9) : word.length();
        Due.due("caption", x.caption(card, bytes, n), m.caption(card, bytes, n));
    }

    private String someLine() {
        int a = 1 + random.nextInt(numbers), b = a + random.nextInt(4), d = random.nextInt(time), e = d + random.nextInt(time);
        if (isMild) d /= 4;
        if (random.nextInt(15) == 0) b = a - 1;
        if (random.nextInt(15) == 0) e = d - 1;
        String line = "of " + random.nextInt(random.nextInt(10) == 0 ? 6 : 2) + " from " + a + " to " + b;
        line += random.nextInt(3) == 0 ? " back " + random.nextInt(random.nextInt(10) == 0 ? 6 : 3) : " day " + d + " to " + Math.min(20000, e);
        if (random.nextInt(12) == 0) line = line.replace(" ", "");
        if (random.nextInt(12) == 0) line = line.replace(" ", "  ");
        return line;
    }

    private void writeText() {
        Due.due("erase", x.erase(), m.erase());
        StringBuilder text = new StringBuilder(someLine());
        int more = random.nextInt(4);
        for (int i = 0; i < more; i++) text.append(random.nextBoolean() ? "; " : ";").append(someLine());
        if (random.nextInt(3) == 0) {
            int at = random.nextInt(text.length());
            String odd = "; 09azAZ`{/:\u00e9\u0000\u00ff!";
            if (random.nextBoolean()) text.setCharAt(at, odd.charAt(random.nextInt(odd.length())));
            else text.setLength(at);
        }
        for (int i = 0; i < text.length(); i += 8) {
            String part = text.substring(i, Math.min(i + 8, text.length()));
            long bytes = Due.word(part);
            calls++;
            Due.due("write", x.write(bytes, part.length()), m.write(bytes, part.length()));
        }
        calls += 2;
        Due.due("fault of " + text, x.fault(), m.fault());
    }

    private void call(int promise) {
        int a, b, c;
        switch (promise) {
            case 2: tellCard(); break;
            case 3: tellCaption(); break;
            case 4: a = random.nextInt(20) == 0 ? below(100) : 1; Due.due("days", x.days(a), m.days(a)); break;
            case 5: tellSetting(); break;
            case 6: a = someCard(); b = someCard(); Due.due("difference", x.difference(a, b), m.difference(a, b)); break;
            case 7: a = someCard(); Due.due("negative", x.negative(a), m.negative(a)); break;
            case 8: a = someCard(); b = someCard(); Due.due("far", x.far(a, b), m.far(a, b)); break;
            case 9: a = someCard(); b = someCard(); Due.due("match", x.match(a, b), m.match(a, b)); break;
            case 10: a = someCard(); b = below(5); Due.due("of " + b, x.of(a, b), m.of(a, b)); break;
            case 11: a = below(5); b = below(5); Due.due("series " + b, x.series(a, b), m.series(a, b)); break;
            case 12: a = below(2); b = below(4); Due.due("gap", x.gap(a, b), m.gap(a, b)); break;
            case 13: a = below(2); Due.due("unseen", x.unseen(a), m.unseen(a)); break;
            case 14: a = below(4); b = below(4); c = below(3); Due.due("overlap", x.overlap(a, b, c), m.overlap(a, b, c)); break;
            case 15: a = below(8); b = someStart(); c = someEnd(); Due.due("feature", x.feature(a, b, c), m.feature(a, b, c)); break;
            case 16: a = someCard(); b = below(8); c = below(3); Due.due("shows", x.shows(a, b, c), m.shows(a, b, c)); break;
            case 17: a = below(5); b = someStart(); c = someEnd(); Due.due("back", x.back(a, b, c), m.back(a, b, c)); break;
            case 18: a = someCard(); b = isMild ? Math.min(a - 1, someCard()) : someCard(); Due.due("later", x.later(a, b), m.later(a, b)); break;
            case 19: a = someCard(); b = below(2); c = below(2); Due.due("span", x.span(a, b, c), m.span(a, b, c)); break;
            case 20: Due.due("quarrel", x.quarrel(), m.quarrel()); break;
            case 21: Due.due("culprit", x.culprit(), m.culprit()); break;
            case 22: a = below(8); b = below(65); Due.due("landmark", x.landmark(a, b), m.landmark(a, b)); break;
            case 23: tellWalls(); break;
            case 24: a = someCard(); b = below(8); Due.due("view", x.view(a, b), m.view(a, b)); break;
            case 25: a = someCard(); Due.due("unview", x.unview(a), m.unview(a)); break;
            case 26: a = someCard(); Due.due("stood", x.stood(a), m.stood(a)); break;
            case 27: a = someCard(); Due.due("together", x.together(a), m.together(a)); break;
            case 28: writeText(); break;
            case 29: if (random.nextInt(4) == 0) Due.due("erase", x.erase(), m.erase()); break;
            case 30: Due.due("fault", x.fault(), m.fault()); break;
            case 31: Due.due("catalogue", x.catalogue(), m.catalogue()); break;
            case 32: a = below(4); Due.due("breaks", x.breaks(a), m.breaks(a)); break;
            default: a = below(8); Due.due("count " + a, x.count(a), m.count(a)); break;
        }
    }

    private void tellSetting() {
        int what = below(3);
        int value = what == 0 ? below(9) : what == 1 ? (random.nextInt(3) == 0 ? random.nextInt(40) : below(1000)) : below(10001);
        Due.due("set", x.set(what, value), m.set(what, value));
        calls++;
        if (what == 0 && random.nextBoolean()) Due.due("set", x.set(0, 2), m.set(0, 2));
        if (what == 1 && random.nextBoolean()) Due.due("set", x.set(1, 999), m.set(1, 999));
    }

    private void tellWalls() {
        long cells = random.nextLong() & random.nextLong() & random.nextLong();
        Due.due("walls", x.walls(cells), m.walls(cells));
    }

    /** One call more: whether there was one. */
    private boolean goOn() {
        if (calls >= CALLS - MOST_AT_ONCE) return false;
        int sum = 0;
        for (int weight : weights) sum += weight;
        int at = random.nextInt(sum), promise = 0;
        while (at >= weights[promise]) at -= weights[promise++];
        call(promise);
        calls++;
        return true;
    }

    public static void main(String[] args) {
        // Two at a time, call by call in turns, so that what objects had in common would be seen.
        for (int seed = 1; seed < RUNS; seed += 2) {
            RandomRunsTest one = new RandomRunsTest(seed), other = new RandomRunsTest(seed + 1);
            while (one.goOn() | other.goOn()) continue;
        }
        Due.end();
    }
}
