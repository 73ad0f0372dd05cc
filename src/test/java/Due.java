/** Holds answers against those that are due, and tells every one that is not. */
final class Due {
    private static int wrong = 0;
    private static int asked = 0;
    private static String sentence = "";

    private Due() {
    }

    /** The sentence of the document that the answers from here on are held against. */
    static void says(String words) {
        sentence = "[" + words + "] ";
    }

    static void due(String call, long got, long want) {
        asked++;
        if (got != want) {
            wrong++;
            System.out.println(sentence + call + " answered " + got + ", due is " + want);
        }
    }

    static void end() {
        System.out.println(wrong == 0 ? asked + " answers are as due" : wrong + " answers are not as due");
        if (wrong != 0 || asked == 0) {
            System.exit(1);
        }
    }

    /** A PICTURE by its rows from above, # for a bit that is set; what is not told is not set. */
    static long picture(String... rows) {
        long bits = 0;
        for (int y = 0; y < rows.length; y++) {
            for (int x = 0; x < rows[y].length(); x++) {
                if (rows[y].charAt(x) == '#') {
                    bits |= 1L << 8 * y + x;
                }
            }
        }
        return bits;
    }

    /** A PICTURE with all cells further right by dx and further down by dy; what comes in is not set. */
    static long moved(long picture, int dx, int dy) {
        long bits = 0;
        for (int y = 0; y < 8; y++) {
            for (int x = 0; x < 8; x++) {
                boolean inside = x + dx >= 0 && x + dx < 8 && y + dy >= 0 && y + dy < 8;
                if (inside && (picture >> 8 * y + x & 1) == 1) {
                    bits |= 1L << 8 * (y + dy) + x + dx;
                }
            }
        }
        return bits;
    }

    /** Up to eight signs as caption and write take them. */
    static long word(String signs) {
        long bytes = 0;
        for (int i = 0; i < signs.length(); i++) {
            bytes |= (long) (signs.charAt(i) & 255) << 8 * i;
        }
        return bytes;
    }

    static int say(ViewCards x, int card, String caption) {
        return x.caption(card, word(caption), caption.length());
    }

    /** Writes a whole text behind THE TEXT, eight bytes at a time. */
    static void tell(ViewCards x, String text) {
        for (int i = 0; i < text.length(); i += 8) {
            String part = text.substring(i, Math.min(i + 8, text.length()));
            x.write(word(part), part.length());
        }
    }

    static int faultOf(String text) {
        ViewCards x = new ViewCards();
        tell(x, text);
        return x.fault();
    }
}
