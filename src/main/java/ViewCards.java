/** Cards with views of a county: told, compared, dated, placed, and held against a catalogue. */
public final class ViewCards {
    public static final int NONE = -1, UNKNOWN = -2, OUTSIDE = -3, NOT = -4, FULL = -5;

    private static final int CARDS = 20, LISTS = 4, PUBLISHERS = 5, BACKS = 5;
    private static final int LAST_NUMBER = 99, SKY_ROWS = 4, LETTERS = 8;
    private static final int LAST_TELLING = 999, DAYS_AT_ONCE = 99, LAST_DAY = 20000;
    private static final int MOST_SLACK = 8, MOST_BASE = 10000;
    private static final int FEATURES = 8, LATERS = 12;
    private static final int HIDDEN = 0, SHOWN = 1, NOT_KNOWN = 2;
    private static final int SIDE = 8, CELLS = 64, NOWHERE = 64, LANDMARKS = 8, IN_VIEW = 5;
    private static final int BYTES = 160, BYTES_AT_ONCE = 8, LINES = 8;

    private final Album album;
    private final Kin kin;
    private final Numbers numbers;
    private final Dating dating;
    private final Ground ground;
    private final Reader reader;
    private final Lines noLines;
    private Lines lines;
    private Lines draft;
    private int base;

    public ViewCards() {
        album = new Album();
        kin = new Kin(album);
        numbers = new Numbers(album);
        dating = new Dating(album, kin);
        ground = new Ground();
        reader = new Reader();
        noLines = new Lines();
        lines = new Lines();
        draft = new Lines();
        base = 100;
    }

    // ---- cards

    public int card(int list, int publisher, int number, int back, long picture, int sky, int posted) {
        if (!isWithin(list, 0, LISTS - 1) || !isWithin(publisher, 0, PUBLISHERS - 1)
                || !isWithin(back, 0, BACKS - 1)) {
            return UNKNOWN;
        }
        if (!isWithin(number, 0, LAST_NUMBER) || !isWithin(sky, 0, SKY_ROWS)
                || !isWithin(posted, NONE, LAST_DAY)) {
            return OUTSIDE;
        }
        if (album.size >= CARDS) {
            return FULL;
        }
        int card = album.size;
        album.tell(list, publisher, number, back, picture, sky, posted);
        kin.comparePicture(card);
        kin.compareWord(card);
        return card;
    }

    public int caption(int card, long word, int n) {
        if (!album.isThere(card)) {
            return UNKNOWN;
        }
        if (!isWithin(n, 0, LETTERS)) {
            return OUTSIDE;
        }
        for (int i = 0; i < n; i++) {
            if (!isLetter(byteOf(word, i))) {
                return OUTSIDE;
            }
        }
        album.word[card] = word;
        album.letters[card] = n;
        kin.compareWord(card);
        return 1;
    }

    public int days(int n) {
        if (!isWithin(n, 1, DAYS_AT_ONCE) || album.theDay + n > LAST_TELLING) {
            return OUTSIDE;
        }
        album.theDay += n;
        return album.theDay;
    }

    public int set(int what, int v) {
        int was;
        if (what == 0 && isWithin(v, 0, MOST_SLACK)) {
            was = kin.slack;
            kin.slack = v;
        } else if (what == 1 && isWithin(v, 0, LAST_TELLING)) {
            was = album.asOf;
            album.asOf = v;
        } else if (what == 2 && isWithin(v, 1, MOST_BASE)) {
            was = base;
            base = v;
        } else {
            was = OUTSIDE;
        }
        return was;
    }

    public int difference(int a, int b) {
        return areTwoThere(a, b) ? kin.otherwise[a][b] : UNKNOWN;
    }

    public int negative(int card) {
        return album.isThere(card) ? lowest(kin.sameNegative(card, album.there())) : UNKNOWN;
    }

    public int far(int a, int b) {
        return album.isThere(a) && album.isThere(b) ? kin.changes[a][b] : UNKNOWN;
    }

    public int match(int a, int b) {
        if (!areTwoThere(a, b)) {
            return UNKNOWN;
        }
        return kin.isMatch(a, b) ? 1 : 0;
    }

    public int of(int card, int what) {
        if (!album.isThere(card)) {
            return UNKNOWN;
        }
        switch (what) {
            case 0:
                return lowest(kin.sameCard(card, album.there()));
            case 1:
                return timesSeen(card);
            case 2:
                return kin.rivals(card, album.there());
            case 3:
                return priceOf(card);
            case 4:
                return Integer.bitCount(album.publishersOf(kin.sameNegative(card, album.there())));
            default:
                return OUTSIDE;
        }
    }

    private int timesSeen(int card) {
        return Integer.bitCount(album.listsOf(kin.sameCard(card, album.there())));
    }

    private int priceOf(int card) {
        int price = base / Math.max(1, timesSeen(card));
        numbers.gather(album.publisher[card]);
        if (numbers.isByGap(album.number[card])) {
            price += price / 2;
        }
        if (kin.rivals(card, album.there()) > 0) {
            price -= price / 4;
        }
        return price;
    }

    // ---- series, counts

    public int series(int publisher, int what) {
        if (!isWithin(publisher, 0, PUBLISHERS - 1)) {
            return UNKNOWN;
        }
        numbers.gather(publisher);
        switch (what) {
            case 0:
                return numbers.size;
            case 1:
                return numbers.least;
            case 2:
                return numbers.greatest;
            case 3:
                return numbers.missing();
            case 4:
                return numbers.gaps();
            default:
                return OUTSIDE;
        }
    }

    public int gap(int publisher, int i) {
        if (!isWithin(publisher, 0, PUBLISHERS - 1)) {
            return UNKNOWN;
        }
        if (i < 0) {
            return OUTSIDE;
        }
        numbers.gather(publisher);
        return numbers.gapAt(i);
    }

    public int unseen(int part) {
        if (!isWithin(part, 0, 1)) {
            return OUTSIDE;
        }
        int once = cardsSeen(1);
        int twice = cardsSeen(2);
        int above = twice > 0 ? once * once : once * (once - 1);
        int below = twice > 0 ? 2 * twice : 2;
        int common = Math.max(1, commonDivisor(above, below));
        return (part == 0 ? above : below) / common;
    }

    /** How many CARDS, each ONE once, are SEEN so many times. */
    private int cardsSeen(int times) {
        int found = 0;
        int firsts = kin.differentCards(album.there());
        for (int card = 0; card < CARDS; card++) {
            if (has(firsts, card) && timesSeen(card) == times) {
                found++;
            }
        }
        return found;
    }

    public int overlap(int one, int two, int part) {
        if (!isWithin(one, 0, LISTS - 1) || !isWithin(two, 0, LISTS - 1) || one == two) {
            return UNKNOWN;
        }
        if (!isWithin(part, 0, 2)) {
            return OUTSIDE;
        }
        int both = cardsInBoth(one, two);
        if (part == 0) {
            return both;
        }
        if (both == 0) {
            return NONE;
        }
        return part == 1 ? cardsInBoth(one, one) * cardsInBoth(two, two) : both;
    }

    /** How many CARDS, each ONE once, are in both LISTS (which may be the same). */
    private int cardsInBoth(int one, int two) {
        int found = 0;
        int firsts = kin.differentCards(album.there());
        for (int card = 0; card < CARDS; card++) {
            if (has(firsts, card)) {
                int lists = album.listsOf(kin.sameCard(card, album.there()));
                if (has(lists, one) && has(lists, two)) {
                    found++;
                }
            }
        }
        return found;
    }

    // ---- days

    public int feature(int feature, int from, int to) {
        if (!isWithin(feature, 0, FEATURES - 1)) {
            return UNKNOWN;
        }
        if (!isSpan(from, to)) {
            return OUTSIDE;
        }
        dating.featureFrom[feature] = from;
        dating.featureTo[feature] = to;
        return 1;
    }

    public int shows(int card, int feature, int v) {
        if (!album.isThere(card) || !isWithin(feature, 0, FEATURES - 1)) {
            return UNKNOWN;
        }
        if (v != HIDDEN && v != SHOWN && v != NOT_KNOWN) {
            return OUTSIDE;
        }
        int was = dating.showing[card][feature];
        dating.showing[card][feature] = v;
        return was;
    }

    public int back(int back, int from, int to) {
        if (!isWithin(back, 0, BACKS - 1)) {
            return UNKNOWN;
        }
        if (!isSpan(from, to)) {
            return OUTSIDE;
        }
        dating.backFrom[back] = from;
        dating.backTo[back] = to;
        return 1;
    }

    public int later(int a, int b) {
        if (!areTwoThere(a, b)) {
            return UNKNOWN;
        }
        if (dating.laters >= LATERS) {
            return FULL;
        }
        dating.laterOne[dating.laters] = a;
        dating.earlierOne[dating.laters] = b;
        dating.laters++;
        return dating.laters;
    }

    public int span(int card, int sort, int what) {
        if (!album.isThere(card)) {
            return UNKNOWN;
        }
        if (!isWithin(sort, 0, 1) || !isWithin(what, 0, 1)) {
            return OUTSIDE;
        }
        if (!dating.settle(album.there(), lines)) {
            return NONE;
        }
        if (sort == 0) {
            int leader = dating.leader[card];
            return what == 0 ? dating.taken.from[leader] : dating.taken.to[leader];
        }
        return what == 0 ? dating.published.from[card] : dating.published.to[card];
    }

    public int quarrel() {
        return dating.settle(album.there(), lines) ? 0 : 1;
    }

    public int culprit() {
        int there = album.there();
        if (dating.settle(there, lines)) {
            return NONE;
        }
        for (int card = 0; card < CARDS; card++) {
            if (has(there, card) && dating.settle(there & ~(1 << card), lines)) {
                return card;
            }
        }
        return NONE;
    }

    // ---- places

    public int landmark(int landmark, int cell) {
        if (!isWithin(landmark, 0, LANDMARKS - 1)) {
            return UNKNOWN;
        }
        if (!isWithin(cell, 0, CELLS - 1) && cell != NOWHERE) {
            return OUTSIDE;
        }
        ground.cellOf[landmark] = cell;
        return 1;
    }

    public int walls(long cells) {
        ground.walled = cells;
        return 1;
    }

    public int view(int card, int landmark) {
        if (!album.isThere(card) || !isWithin(landmark, 0, LANDMARKS - 1)) {
            return UNKNOWN;
        }
        if (ground.isInView(card, landmark)) {
            return NOT;
        }
        if (ground.inView[card] >= IN_VIEW) {
            return FULL;
        }
        ground.seen[card][ground.inView[card]] = landmark;
        ground.inView[card]++;
        return ground.inView[card];
    }

    public int unview(int card) {
        if (!album.isThere(card)) {
            return UNKNOWN;
        }
        int had = ground.inView[card];
        ground.inView[card] = 0;
        return had;
    }

    public long stood(int card) {
        return album.isThere(card) ? ground.standing(card) : 0;
    }

    public int together(int card) {
        if (!album.isThere(card)) {
            return UNKNOWN;
        }
        int same = kin.sameNegative(card, album.there());
        long cells = -1;
        for (int other = 0; other < CARDS; other++) {
            if (has(same, other) && ground.inView[other] > 0) {
                cells &= ground.standing(other);
            }
        }
        return Long.bitCount(cells);
    }

    // ---- catalogues

    public int write(long bytes, int n) {
        if (!isWithin(n, 1, BYTES_AT_ONCE)) {
            return OUTSIDE;
        }
        if (reader.size + n > BYTES) {
            return FULL;
        }
        for (int i = 0; i < n; i++) {
            reader.text[reader.size + i] = byteOf(bytes, i);
        }
        reader.size += n;
        return reader.size;
    }

    public int erase() {
        int had = reader.size;
        reader.size = 0;
        return had;
    }

    public int fault() {
        return reader.read(draft);
    }

    public int catalogue() {
        if (reader.read(draft) != NONE) {
            return NOT;
        }
        Lines old = lines;
        lines = draft;
        draft = old;
        return lines.size;
    }

    public int breaks(int i) {
        if (!isWithin(i, 0, lines.size - 1)) {
            return UNKNOWN;
        }
        int there = album.there();
        boolean ofDays = lines.isOfDays[i];
        if (ofDays && !dating.settle(there, noLines)) {
            return NOT;
        }
        int breaking = 0;
        for (int card = 0; card < CARDS; card++) {
            if (has(there, card) && lines.isFor(i, album.publisher[card], album.number[card])) {
                boolean keeps = ofDays
                        ? dating.canBePublished(card, lines.low[i], lines.high[i])
                        : album.backOf[card] == lines.low[i];
                if (!keeps) {
                    breaking |= 1 << card;
                }
            }
        }
        return breaking;
    }

    public int count(int what) {
        switch (what) {
            case 0:
                return album.size;
            case 1:
                return Integer.bitCount(album.there());
            case 2:
                return Integer.bitCount(kin.negatives(album.there()));
            case 3:
                return Integer.bitCount(kin.differentCards(album.there()));
            case 4:
                return album.theDay;
            case 5:
                return reader.size;
            case 6:
                return lines.size;
            case 7:
                return dating.laters;
            default:
                return OUTSIDE;
        }
    }

    // ---- what all parts use

    private boolean areTwoThere(int a, int b) {
        return a != b && album.isThere(a) && album.isThere(b);
    }

    private static boolean isSpan(int from, int to) {
        return isWithin(from, 0, LAST_DAY) && isWithin(to, from, LAST_DAY);
    }

    private static boolean isWithin(int value, int least, int greatest) {
        return value >= least && value <= greatest;
    }

    private static boolean has(int bits, int i) {
        return (bits >> i & 1) == 1;
    }

    /** The place of the lowest bit of a set that is not empty. */
    private static int lowest(int bits) {
        return Integer.bitCount((bits & -bits) - 1);
    }

    private static int byteOf(long row, int i) {
        return (int) (row >> 8 * i & 255);
    }

    private static boolean isLetter(int sign) {
        return sign >= 'a' && sign <= 'z';
    }

    private static boolean isDigit(int sign) {
        return sign >= '0' && sign <= '9';
    }

    /** The greatest divisor that two numbers from 0 on have in common; 0 of 0 and 0. */
    private static int commonDivisor(int a, int b) {
        int one = a;
        int two = b;
        // The lesser number is at least halved in two steps, so 64 steps end with any two ints.
        for (int step = 0; step < 64 && two != 0; step++) {
            int rest = one % two;
            one = two;
            two = rest;
        }
        return one;
    }

    /** The CARDS as they were told, and the days by which they are THERE. */
    private static final class Album {
        final int[] list = new int[CARDS];
        final int[] publisher = new int[CARDS];
        final int[] number = new int[CARDS];
        final int[] backOf = new int[CARDS];
        final long[] picture = new long[CARDS];
        final int[] sky = new int[CARDS];
        final int[] posted = new int[CARDS];
        final int[] toldOn = new int[CARDS];
        final long[] word = new long[CARDS];
        final int[] letters = new int[CARDS];
        int size;
        int theDay;
        int asOf = LAST_TELLING;

        /** One CARD more; there must be room for it. */
        void tell(int ofList, int ofPublisher, int withNumber, int withBack, long withPicture,
                int withSky, int postedOn) {
            list[size] = ofList;
            publisher[size] = ofPublisher;
            number[size] = withNumber;
            backOf[size] = withBack;
            picture[size] = withPicture;
            sky[size] = withSky;
            posted[size] = postedOn;
            toldOn[size] = theDay;
            size++;
        }

        boolean isThere(int card) {
            return card >= 0 && card < size && toldOn[card] <= asOf;
        }

        /** All CARDS that are THERE, by bits. */
        int there() {
            int bits = 0;
            for (int card = 0; card < size; card++) {
                if (isThere(card)) {
                    bits |= 1 << card;
                }
            }
            return bits;
        }

        /** All LISTS of some CARDS, by bits. */
        int listsOf(int cards) {
            return valuesOf(cards, list);
        }

        /** All PUBLISHERS of some CARDS, by bits. */
        int publishersOf(int cards) {
            return valuesOf(cards, publisher);
        }

        private static int valuesOf(int cards, int[] values) {
            int found = 0;
            for (int card = 0; card < CARDS; card++) {
                if (has(cards, card)) {
                    found |= 1 << values[card];
                }
            }
            return found;
        }
    }

    /** Which CARDS are of one NEGATIVE, and which are ONE. */
    private static final class Kin {
        private static final int SHIFT = 2, FEWEST_CELLS = 24, FARTHEST = 2;

        private final Album album;
        // Pictures never change and captions seldom do, so every two are compared once and kept.
        final int[][] otherwise = new int[CARDS][CARDS];
        final int[][] changes = new int[CARDS][CARDS];
        private final int[] row = new int[LETTERS + 1];
        int slack = 2;

        Kin(Album album) {
            this.album = album;
        }

        void comparePicture(int card) {
            for (int other = 0; other < album.size; other++) {
                int fewest = fewestOtherwise(card, other);
                otherwise[card][other] = fewest;
                otherwise[other][card] = fewest;
            }
        }

        private int fewestOtherwise(int a, int b) {
            int fewest = NONE;
            for (int dy = -SHIFT; dy <= SHIFT; dy++) {
                for (int dx = -SHIFT; dx <= SHIFT; dx++) {
                    long cells = cellsInBoth(album.sky[a], album.sky[b], dx, dy);
                    if (Long.bitCount(cells) >= FEWEST_CELLS) {
                        long other = moved(album.picture[b], SIDE * dy + dx);
                        int unlike = Long.bitCount((album.picture[a] ^ other) & cells);
                        fewest = fewest == NONE ? unlike : Math.min(fewest, unlike);
                    }
                }
            }
            return fewest;
        }

        /** The cells of one PICTURE that are in no SKY and by the shift are in the other, in no SKY. */
        private static long cellsInBoth(int sky, int otherSky, int dx, int dy) {
            long columns = 255 << Math.max(0, -dx) & 255 >> Math.max(0, dx);
            int first = Math.max(sky, otherSky - dy);
            int last = Math.min(SIDE - 1, SIDE - 1 - dy);
            long cells = 0;
            for (int y = first; y <= last; y++) {
                cells |= columns << SIDE * y;
            }
            return cells;
        }

        private static long moved(long picture, int by) {
            return by >= 0 ? picture >>> by : picture << -by;
        }

        void compareWord(int card) {
            for (int other = 0; other < album.size; other++) {
                int fewest = fewestChanges(card, other);
                changes[card][other] = fewest;
                changes[other][card] = fewest;
            }
        }

        private int fewestChanges(int a, int b) {
            int rows = album.letters[a];
            int columns = album.letters[b];
            for (int j = 0; j <= columns; j++) {
                row[j] = j;
            }
            for (int i = 1; i <= rows; i++) {
                int corner = row[0];
                row[0] = i;
                for (int j = 1; j <= columns; j++) {
                    boolean isSame = byteOf(album.word[a], i - 1) == byteOf(album.word[b], j - 1);
                    int changed = isSame ? corner : corner + 1;
                    corner = row[j];
                    row[j] = Math.min(changed, Math.min(row[j], row[j - 1]) + 1);
                }
            }
            return row[columns];
        }

        boolean isLike(int a, int b) {
            return otherwise[a][b] != NONE && otherwise[a][b] <= slack;
        }

        boolean isMatch(int a, int b) {
            boolean isNumberSame = album.number[a] == album.number[b]
                    || album.number[a] == 0 || album.number[b] == 0;
            return album.list[a] != album.list[b]
                    && album.publisher[a] == album.publisher[b]
                    && album.backOf[a] == album.backOf[b]
                    && isNumberSame
                    && isLike(a, b)
                    && changes[a][b] <= FARTHEST;
        }

        /** All among the CARDS given that are of one NEGATIVE with a CARD of them. */
        int sameNegative(int card, int among) {
            return chained(card, among, false);
        }

        /** All among the CARDS given that are ONE with a CARD of them. */
        int sameCard(int card, int among) {
            return chained(card, among, true);
        }

        private int chained(int card, int among, boolean byMatch) {
            int found = 1 << card;
            int waiting = found;
            // Every CARD waits once at most, so each is taken up within so many steps.
            for (int step = 0; step < CARDS && waiting != 0; step++) {
                int next = lowest(waiting);
                waiting &= ~(1 << next);
                for (int other = 0; other < CARDS; other++) {
                    boolean isNew = has(among & ~found, other);
                    if (isNew && (byMatch ? isMatch(next, other) : isLike(next, other))) {
                        found |= 1 << other;
                        waiting |= 1 << other;
                    }
                }
            }
            return found;
        }

        /** The least CARD of every NEGATIVE, by bits. */
        int negatives(int among) {
            return leastOfChains(among, false);
        }

        /** The least of every CARDS that are ONE, by bits. */
        int differentCards(int among) {
            return leastOfChains(among, true);
        }

        private int leastOfChains(int among, boolean byMatch) {
            int found = 0;
            int left = among;
            for (int card = 0; card < CARDS; card++) {
                if (has(left, card)) {
                    left &= ~chained(card, left, byMatch);
                    found |= 1 << card;
                }
            }
            return found;
        }

        /** In how many LISTS two or more of the CARDS given MATCH a CARD. */
        int rivals(int card, int among) {
            int once = 0;
            int twice = 0;
            for (int other = 0; other < CARDS; other++) {
                if (has(among, other) && other != card && isMatch(card, other)) {
                    int list = 1 << album.list[other];
                    twice |= once & list;
                    once |= list;
                }
            }
            return Integer.bitCount(twice);
        }
    }

    /** The NUMBERS in the SERIES of one PUBLISHER at a time. */
    private static final class Numbers {
        private final Album album;
        private final boolean[] isBorne = new boolean[LAST_NUMBER + 1];
        int size;
        int least;
        int greatest;

        Numbers(Album album) {
            this.album = album;
        }

        /** Takes up the SERIES of a PUBLISHER, of the CARDS that are THERE; the rest asks of it. */
        void gather(int publisher) {
            for (int n = 1; n <= LAST_NUMBER; n++) {
                isBorne[n] = false;
            }
            for (int card = 0; card < album.size; card++) {
                if (album.isThere(card) && album.publisher[card] == publisher) {
                    isBorne[album.number[card]] = true;
                }
            }
            size = 0;
            least = NONE;
            greatest = NONE;
            // 0 is no NUMBER.
            for (int n = 1; n <= LAST_NUMBER; n++) {
                if (isBorne[n]) {
                    size++;
                    least = least == NONE ? n : least;
                    greatest = n;
                }
            }
        }

        boolean isMissing(int n) {
            return n > least && n < greatest && !isBorne[n];
        }

        boolean isByGap(int n) {
            return n > 0 && (isMissing(n - 1) || isMissing(n + 1));
        }

        int missing() {
            return size == 0 ? 0 : greatest - least + 1 - size;
        }

        int gaps() {
            int found = 0;
            for (int n = 1; n <= LAST_NUMBER; n++) {
                if (isMissing(n) && !isMissing(n - 1)) {
                    found++;
                }
            }
            return found;
        }

        /** 100 times the first NUMBER of a GAP and the last; NONE: there are not so many. */
        int gapAt(int i) {
            int left = i;
            int first = NONE;
            for (int n = 1; n <= LAST_NUMBER; n++) {
                if (isMissing(n)) {
                    first = isMissing(n - 1) ? first : n;
                    if (!isMissing(n + 1)) {
                        if (left == 0) {
                            return 100 * first + n;
                        }
                        left--;
                    }
                }
            }
            return NONE;
        }
    }

    /** Spans of days, each from a day to a day; empty where the first is behind the last. */
    private static final class Spans {
        final int[] from = new int[CARDS];
        final int[] to = new int[CARDS];
        boolean isChanged;

        void open(int i, int first, int last) {
            from[i] = first;
            to[i] = last;
        }

        void notBefore(int i, int day) {
            if (from[i] < day) {
                from[i] = day;
                isChanged = true;
            }
        }

        void notBehind(int i, int day) {
            if (to[i] > day) {
                to[i] = day;
                isChanged = true;
            }
        }
    }

    /** When pictures were TAKEN and CARDS were PUBLISHED. */
    private static final class Dating {
        // Without a ring of LATER a day passes at most 12 of them and 8 FEATURES, a round for each.
        private static final int ROUNDS = 32;

        private final Album album;
        private final Kin kin;
        final int[] featureFrom = new int[FEATURES];
        final int[] featureTo = new int[FEATURES];
        final int[] backFrom = new int[BACKS];
        final int[] backTo = new int[BACKS];
        final int[][] showing = new int[CARDS][FEATURES];
        final int[] laterOne = new int[LATERS];
        final int[] earlierOne = new int[LATERS];
        int laters;
        final Spans taken = new Spans();
        final Spans published = new Spans();
        final int[] leader = new int[CARDS];

        Dating(Album album, Kin kin) {
            this.album = album;
            this.kin = kin;
            for (int feature = 0; feature < FEATURES; feature++) {
                featureTo[feature] = LAST_DAY;
            }
            for (int back = 0; back < BACKS; back++) {
                backTo[back] = LAST_DAY;
            }
            for (int card = 0; card < CARDS; card++) {
                for (int feature = 0; feature < FEATURES; feature++) {
                    showing[card][feature] = NOT_KNOWN;
                }
            }
        }

        /** Works out the SPANS of the CARDS given, by some LINES: whether there is no QUARREL. */
        boolean settle(int among, Lines lines) {
            findLeaders(among);
            for (int card = 0; card < CARDS; card++) {
                if (has(among, card)) {
                    openPublished(card, lines);
                }
            }
            for (int round = 0; round < ROUNDS; round++) {
                boolean isNarrower = narrow(among);
                if (isSomeEmpty(among)) {
                    return false;
                }
                if (!isNarrower) {
                    return true;
                }
            }
            // Only a ring of LATER goes on for so long, and it would go on till a span is empty.
            return false;
        }

        /** TAKEN of a NEGATIVE stands in the row of its least CARD. */
        private void findLeaders(int among) {
            int left = among;
            for (int card = 0; card < CARDS; card++) {
                if (has(left, card)) {
                    taken.open(card, 0, LAST_DAY);
                    int same = kin.sameNegative(card, left);
                    left &= ~same;
                    for (int other = card; other < CARDS; other++) {
                        if (has(same, other)) {
                            leader[other] = card;
                        }
                    }
                }
            }
        }

        private void openPublished(int card, Lines lines) {
            int back = album.backOf[card];
            published.open(card, backFrom[back], backTo[back]);
            if (album.posted[card] != NONE) {
                published.notBehind(card, album.posted[card]);
            }
            for (int i = 0; i < lines.size; i++) {
                if (lines.isOfDays[i] && lines.isFor(i, album.publisher[card], album.number[card])) {
                    published.notBefore(card, lines.low[i]);
                    published.notBehind(card, lines.high[i]);
                }
            }
        }

        /** Narrows every span once by all that bounds it: whether one has changed. */
        private boolean narrow(int among) {
            taken.isChanged = false;
            published.isChanged = false;
            for (int card = 0; card < CARDS; card++) {
                if (has(among, card)) {
                    narrowByFeatures(card);
                    published.notBefore(card, taken.from[leader[card]]);
                    taken.notBehind(leader[card], published.to[card]);
                }
            }
            for (int i = 0; i < laters; i++) {
                int late = laterOne[i];
                int early = earlierOne[i];
                if (has(among, late) && has(among, early)) {
                    published.notBefore(late, published.from[early] + 1);
                    published.notBehind(early, published.to[late] - 1);
                }
            }
            return taken.isChanged || published.isChanged;
        }

        private void narrowByFeatures(int card) {
            int negative = leader[card];
            for (int feature = 0; feature < FEATURES; feature++) {
                int from = featureFrom[feature];
                int to = featureTo[feature];
                if (showing[card][feature] == SHOWN) {
                    taken.notBefore(negative, from);
                    taken.notBehind(negative, to);
                } else if (showing[card][feature] == HIDDEN) {
                    if (isWithin(taken.from[negative], from, to)) {
                        taken.notBefore(negative, to + 1);
                    }
                    if (isWithin(taken.to[negative], from, to)) {
                        taken.notBehind(negative, from - 1);
                    }
                }
            }
        }

        private boolean isSomeEmpty(int among) {
            for (int card = 0; card < CARDS; card++) {
                if (has(among, card) && (published.from[card] > published.to[card]
                        || taken.from[leader[card]] > taken.to[leader[card]])) {
                    return true;
                }
            }
            return false;
        }

        boolean canBePublished(int card, int from, int to) {
            return published.from[card] <= to && published.to[card] >= from;
        }
    }

    /** THE MAP, and what is seen from its CELLS. */
    private static final class Ground {
        final int[] cellOf = new int[LANDMARKS];
        long walled;
        final int[][] seen = new int[CARDS][IN_VIEW];
        final int[] inView = new int[CARDS];

        Ground() {
            for (int landmark = 0; landmark < LANDMARKS; landmark++) {
                cellOf[landmark] = NOWHERE;
            }
        }

        boolean isInView(int card, int landmark) {
            for (int i = 0; i < inView[card]; i++) {
                if (seen[card][i] == landmark) {
                    return true;
                }
            }
            return false;
        }

        /** The CELLS in which one may have STOOD, by bits. */
        long standing(int card) {
            long open = ~walled;
            for (int i = 0; i < inView[card]; i++) {
                int cell = cellOf[seen[card][i]];
                if (cell == NOWHERE) {
                    return 0;
                }
                open &= ~(1L << cell);
            }
            long found = 0;
            for (int cell = 0; cell < CELLS; cell++) {
                if ((open >> cell & 1) == 1 && isOrdered(card, cell) && seesAll(card, cell)) {
                    found |= 1L << cell;
                }
            }
            return found;
        }

        private boolean isOrdered(int card, int cell) {
            int last = inView[card] - 1;
            for (int i = 0; i < last; i++) {
                if (!isLeftOf(cell, cellOf[seen[card][i]], cellOf[seen[card][i + 1]])) {
                    return false;
                }
            }
            return last < 1 || isLeftOf(cell, cellOf[seen[card][0]], cellOf[seen[card][last]]);
        }

        /** Whether, as seen from a CELL, one CELL lies to the left of another. */
        private static boolean isLeftOf(int cell, int left, int right) {
            int a = left % SIDE - cell % SIDE;
            int b = left / SIDE - cell / SIDE;
            int c = right % SIDE - cell % SIDE;
            int d = right / SIDE - cell / SIDE;
            return a * d - b * c > 0;
        }

        private boolean seesAll(int card, int cell) {
            for (int i = 0; i < inView[card]; i++) {
                if (!sees(cell, cellOf[seen[card][i]])) {
                    return false;
                }
            }
            return true;
        }

        private boolean sees(int cell, int goal) {
            int dx = goal % SIDE - cell % SIDE;
            int dy = goal / SIDE - cell / SIDE;
            int parts = commonDivisor(Math.abs(dx), Math.abs(dy));
            if (parts == 0) {
                return true;
            }
            // From middle to middle on the line it is always as far, in x and in y.
            int stride = SIDE * (dy / parts) + dx / parts;
            for (int i = 1; i < parts; i++) {
                if ((walled >> cell + i * stride & 1) == 1) {
                    return false;
                }
            }
            return true;
        }
    }

    /** LINES that a TEXT said. */
    private static final class Lines {
        final int[] publisher = new int[LINES];
        final int[] first = new int[LINES];
        final int[] last = new int[LINES];
        final boolean[] isOfDays = new boolean[LINES];
        /** The BACK, or the first day. */
        final int[] low = new int[LINES];
        /** The BACK, or the last day. */
        final int[] high = new int[LINES];
        int size;

        boolean isFor(int i, int ofPublisher, int number) {
            return publisher[i] == ofPublisher && isWithin(number, first[i], last[i]);
        }
    }

    /** THE TEXT, and the reading of it, TOKEN by TOKEN. */
    private static final class Reader {
        private static final int DIGITS = 5;

        final int[] text = new int[BYTES];
        int size;
        private int start;
        private int end;
        private int wrongAt;

        /** Reads THE TEXT into some LINES: the place of the FAULT, or NONE. */
        int read(Lines into) {
            into.size = 0;
            end = 0;
            wrongAt = NONE;
            goOn();
            readLine(into);
            for (int n = 1; n < LINES && wrongAt == NONE && isAt(";"); n++) {
                goOn();
                readLine(into);
            }
            if (start < size) {
                findWrong();
            }
            return wrongAt;
        }

        private void readLine(Lines into) {
            readWord("of");
            int publisher = readNumber(0, PUBLISHERS - 1);
            readWord("from");
            int first = readNumber(1, LAST_NUMBER);
            readWord("to");
            int last = readNumber(first, LAST_NUMBER);
            boolean isOfDays = isAt("day");
            int low;
            int high;
            if (isOfDays) {
                readWord("day");
                low = readNumber(0, LAST_DAY);
                readWord("to");
                high = readNumber(low, LAST_DAY);
            } else {
                readWord("back");
                low = readNumber(0, BACKS - 1);
                high = low;
            }
            if (wrongAt == NONE && into.size < LINES) {
                into.publisher[into.size] = publisher;
                into.first[into.size] = first;
                into.last[into.size] = last;
                into.isOfDays[into.size] = isOfDays;
                into.low[into.size] = low;
                into.high[into.size] = high;
                into.size++;
            }
        }

        /** The first FAULT stays; nothing is read behind it. */
        private void findWrong() {
            if (wrongAt == NONE) {
                wrongAt = start;
            }
        }

        private void readWord(String word) {
            if (wrongAt == NONE && isAt(word)) {
                goOn();
            } else {
                findWrong();
            }
        }

        /** A number from the least to the greatest; with a FAULT the least, which nothing uses. */
        private int readNumber(int least, int greatest) {
            int number = numberAt();
            if (wrongAt != NONE || !isWithin(number, least, greatest)) {
                findWrong();
                return least;
            }
            goOn();
            return number;
        }

        private boolean isAt(String word) {
            if (end - start != word.length()) {
                return false;
            }
            for (int i = 0; i < word.length(); i++) {
                if (text[start + i] != word.charAt(i)) {
                    return false;
                }
            }
            return true;
        }

        /** The number that the TOKEN is; NONE: it is none of 1 to 5 digits. */
        private int numberAt() {
            int digits = end - start;
            if (digits < 1 || digits > DIGITS || !isDigit(text[start])) {
                return NONE;
            }
            int number = 0;
            for (int i = start; i < end; i++) {
                number = 10 * number + text[i] - '0';
            }
            return number;
        }

        /** Goes on to the next TOKEN; at the end of THE TEXT it is empty. */
        private void goOn() {
            start = end;
            while (start < size && text[start] == ' ') {
                start++;
            }
            end = Math.min(start + 1, size);
            while (end < size && isOneRow(text[start], text[end])) {
                end++;
            }
        }

        private static boolean isOneRow(int first, int next) {
            return isLetter(first) && isLetter(next) || isDigit(first) && isDigit(next);
        }
    }
}
