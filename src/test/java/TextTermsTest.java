/** Part 5 of the terms, THE TEXT, sentence by sentence, at each bound and just beyond it (promises 28 to 33). */
public final class TextTermsTest {
    private static final int NONE = -1, UNKNOWN = -2, OUTSIDE = -3, NOT = -4, FULL = -5;
    private static final String BACKS = "of 0 from 1 to 5 back 1", DAYS = "of 1 from 2 to 9 day 6 to 7";
    private static final String SHORT = "of0from1to1back0";

    private static ViewCards text(String text) {
        ViewCards x = new ViewCards();
        Due.tell(x, text);
        return x;
    }

    /** The FAULT of a text, and that it may be THE CATALOGUE if it has none. */
    private static void faultIs(String text, int due) {
        ViewCards x = text(text);
        Due.due("fault of '" + text + "'", x.fault(), due);
        Due.due("it stays THE TEXT", x.count(5), text.length());
        int lines = due == NONE ? 1 + text.length() - text.replace(";", "").length() : NOT;
        Due.due("catalogue of '" + text + "'", x.catalogue(), lines);
        Due.due("LINES of '" + text + "'", x.count(6), due == NONE ? lines : 0);
        Due.due("it stays THE TEXT", x.count(5), text.length());
    }

    private static String blanks(int n) {
        return " ".repeat(n);
    }

    // ---- bytes

    private static void bytesAtOnce() {
        Due.says("n (1 .. 8) bytes more of THE TEXT, byte i being bytes >> 8 i & 255: how many it has");
        for (int n = 1; n <= 8; n++) {
            ViewCards x = new ViewCards();
            Due.due(n + " bytes", x.write(Due.word("of0from1"), n), n);
            Due.due("so many", x.count(5), n);
            Due.tell(x, "of0from1to2back0".substring(n));
            Due.due("each byte in its place, none behind it", x.fault(), NONE);
        }
        for (int odd : new int[] {0, 9, -1}) {
            ViewCards x = text("of0from1to2back0");
            Due.due(odd + " bytes", x.write(Due.word("1from1to"), odd), OUTSIDE);
            Due.due("none is written", x.count(5), 16);
            Due.due("THE TEXT is as it was", x.fault(), NONE);
        }
    }

    private static void mostBytes() {
        Due.says("THE TEXT is a row of bytes, 160 at most; FULL");
        for (int n = 1; n <= 8; n++) {
            for (int left = 0; left <= 9; left++) {
                ViewCards x = text(BACKS + blanks(160 - left - BACKS.length()));
                Due.due(left + " are left", x.count(5), 160 - left);
                boolean hasRoom = n <= left;
                Due.due(n + " more", x.write(Due.word("!!!!!!!!"), n), hasRoom ? 160 - left + n : FULL);
                Due.due("so many", x.count(5), hasRoom ? 160 - left + n : 160 - left);
                Due.due("refused, nothing is written", x.fault(), hasRoom ? 160 - left : NONE);
                Due.due("9 more", x.write(0, 9), OUTSIDE);
            }
        }
        faultIs(blanks(160 - SHORT.length()) + SHORT, NONE);
        faultIs(blanks(160 - SHORT.length()) + SHORT.substring(0, 15) + "5", 159);
        faultIs(blanks(160), 160);
    }

    private static void erased() {
        Due.says("erase: THE TEXT is empty: how many bytes it had");
        for (int n : new int[] {0, 1, 8, 9, 159, 160}) {
            ViewCards x = text("a".repeat(n));
            Due.due("it had", x.erase(), n);
            Due.due("it has none", x.count(5), 0);
            Due.due("it had none", x.erase(), 0);
            Due.due("empty, it ends too soon", x.fault(), 0);
            Due.tell(x, SHORT);
            Due.due("what was there is gone", x.fault(), NONE);
        }
    }

    // ---- TOKENS

    private static void everyByte() {
        Due.says("TOKEN (a row of letters, a row of digits, any other byte); small letters a .. z; blanks (32) between");
        for (int b = 0; b < 256; b++) {
            char sign = (char) b;
            boolean isLetter = b >= 'a' && b <= 'z', isDigit = b >= '0' && b <= '9', isBlank = b == 32;
            faultIs("of" + sign + "0 from 1 to 2 back 0", isLetter ? 0 : isBlank || sign == '0' ? NONE : 2);
            faultIs("of 0" + sign + " from 1 to 2 back 0", isDigit && b <= '4' || isBlank ? NONE : isDigit ? 3 : 4);
            faultIs("of 0 from" + sign + " 1 to 2 back 0", isLetter ? 5 : isBlank ? NONE : isDigit && b > '0' ? 11 : 9);
            faultIs("of 0 from 1" + sign + " to 12 back 0", isBlank ? NONE : isDigit ? b <= '2' ? NONE : 16 : 11);
            faultIs(BACKS + sign, isBlank ? NONE : isDigit ? 22 : b == ';' ? 24 : 23);
            faultIs(sign + BACKS, isBlank ? NONE : 0);
            faultIs(BACKS + ";" + sign + DAYS, isBlank ? NONE : 24);
            faultIs("  " + sign, isBlank ? 3 : 2);
        }
    }

    private static void blanksBetween() {
        Due.says("blanks (32) between");
        String[] tokens = {"of", "0", "from", "1", "to", "5", "day", "6", "to", "7", ";", "of", "1", "from", "2", "to", "9", "back", "1"};
        for (int n = 0; n <= 4; n++) {
            faultIs(String.join(blanks(n), tokens), NONE);
            faultIs(blanks(n) + String.join(" ", tokens) + blanks(n), NONE);
        }
        for (int i = 0; i <= tokens.length; i++) {
            StringBuilder text = new StringBuilder();
            for (int j = 0; j < tokens.length; j++) text.append(j == i ? blanks(9) : j == 0 ? "" : " ").append(tokens[j]);
            if (i == tokens.length) text.append(blanks(9));
            faultIs(text.toString(), NONE);
        }
        faultIs("o f 0 from 1 to 5 back 1", 0);
        faultIs("of 0 fr om 1 to 5 back 1", 5);
        faultIs("of 0 from 1 to 1 5 back 1", 17);
        faultIs("of 0 from 1 to 5 ba ck 1", 17);
    }

    /** Each TOKEN in turn is left out, told twice or told otherwise. */
    private static void firstTokenThatCannotStand() {
        Due.says("A FAULT is at the first TOKEN that cannot stand there");
        String[][] lines = {BACKS.split(" "), DAYS.split(" ")};
        for (String[] tokens : lines) {
            for (int i = 0; i < tokens.length; i++) {
                StringBuilder before = new StringBuilder();
                for (int j = 0; j < i; j++) before.append(tokens[j]).append(' ');
                StringBuilder behind = new StringBuilder();
                for (int j = i + 1; j < tokens.length; j++) behind.append(' ').append(tokens[j]);
                int place = before.length();
                boolean isNumber = tokens[i].matches("[0-9]+");
                String[] odd = isNumber ? new String[] {"x", "of", "to", ";", "-1", "+1", "123456", "A", "#1"}
                        : new String[] {"x", "0", "1", ";", tokens[i] + "x", "x" + tokens[i], tokens[i].toUpperCase(), tokens[i].substring(1), "#"};
                for (String token : odd) faultIs(before + token + behind, place);
                if (behind.length() > 0) faultIs(before + behind.substring(1), place);
                faultIs(before + tokens[i] + " " + tokens[i] + behind, place + tokens[i].length() + 1);
                faultIs(SHORT + ";" + before + "x" + behind, SHORT.length() + 1 + place);
                faultIs(before + "x" + behind + "; x", place);
            }
        }
        for (String word : new String[] {"to", "from", "of", "days", "backs", "dayback"}) faultIs("of 0 from 1 to 5 " + word + " 1", 17);
        faultIs("of 0 from 1 to 5 back 1 to 2", 24);
        faultIs("of 0 from 1 to 5 day 1 to 2 to 3", 28);
        faultIs("of 0 from 1 to 5 back 1 of 0 from 1 to 5 back 1", 24);
    }

    private static void endTooSoon() {
        Due.says("or at the end, if it comes too soon");
        for (String line : new String[] {BACKS, DAYS}) {
            for (String first : new String[] {"", SHORT + ";"}) {
                for (int n = 0; n <= line.length(); n++) {
                    String start = first + line.substring(0, n);
                    int word = start.length();
                    while (word > 0 && start.charAt(word - 1) >= 'a' && start.charAt(word - 1) <= 'z') word--;
                    boolean isCut = word < start.length() && n < line.length() && line.charAt(n) != ' ';
                    faultIs(start, n == line.length() ? NONE : isCut ? word : start.length());
                    if (n < line.length() && !isCut) faultIs(start + "   ", start.length() + 3);
                }
            }
        }
        faultIs("", 0);
        faultIs(" ", 1);
        faultIs(BACKS + ";", 24);
        faultIs(BACKS + "; ", 25);
    }

    // ---- numbers

    /** A number may be from the least to the greatest; where it stands is marked by #. */
    private static void bounds(String text, int least, int greatest) {
        int place = text.indexOf('#');
        int[] values = {0, 1, 4, 5, 49, 50, 51, 98, 99, 100, 101, 9999, 10000, 19999, 20000, 20001, 65536, 99999, least, greatest};
        for (int value : values) faultIs(text.replace("#", "" + value), value >= least && value <= greatest ? NONE : place);
        faultIs(text.replace("#", "" + (greatest + 1)), place);
        if (least > 0) faultIs(text.replace("#", "" + (least - 1)), place);
        for (String odd : new String[] {"-1", "000000", "00000" + least, "100000", "4294967296", "18446744073709551616", "", "a", "1a"}) {
            // Without the number the blank before the next word is left; behind a number that may be, the letter is wrong.
            boolean isOneOn = odd.isEmpty() && !text.endsWith("#") || odd.equals("1a") && least <= 1;
            faultIs(text.replace("#", odd), isOneOn ? place + 1 : place);
        }
    }

    private static void numberBounds() {
        Due.says("P is a PUBLISHER, A, B NUMBERS 1 .. 99 (A not above B), K a BACK, D, E 0 .. 20000 (D not above E)");
        bounds("of # from 1 to 5 back 1", 0, 4);
        bounds("of 0 from # to 99 back 1", 1, 99);
        bounds("of 0 from 50 to # back 1", 50, 99);
        bounds("of 0 from 1 to # back 1", 1, 99);
        bounds("of 0 from 99 to # back 1", 99, 99);
        bounds("of 0 from 1 to 5 back #", 0, 4);
        bounds("of 0 from 1 to 5 day # to 20000", 0, 20000);
        bounds("of 0 from 1 to 5 day 0 to #", 0, 20000);
        bounds("of 0 from 1 to 5 day 10000 to #", 10000, 20000);
        bounds("of 0 from 1 to 5 day 20000 to #", 20000, 20000);
        faultIs("of 0 from 5 to 4 back 1", 15);
        faultIs("of 0 from 5 to 5 back 1", NONE);
        faultIs("of 0 from 1 to 5 day 8 to 7", 26);
        faultIs("of 0 from 1 to 5 day 8 to 8", NONE);
    }

    private static void digits() {
        Due.says("numbers of 1 to 5 digits");
        for (int n = 1; n <= 8; n++) {
            String zeros = "0".repeat(n - 1);
            faultIs("of " + zeros + "4 from 1 to 5 back 1", n <= 5 ? NONE : 3);
            faultIs("of 0 from " + zeros + "1 to 5 back 1", n <= 5 ? NONE : 10);
            faultIs("of 0 from 1 to " + zeros + "5 back 1", n <= 5 ? NONE : 15);
            faultIs("of 0 from 1 to 5 back " + zeros + "1", n <= 5 ? NONE : 22);
            faultIs("of 0 from 1 to 5 day " + zeros + "1 to 9", n <= 5 ? NONE : 21);
            faultIs("of 0 from 1 to 5 day 1 to " + zeros + "9", n <= 5 ? NONE : 26);
        }
        ViewCards x = new ViewCards();
        x.card(0, 1, 12, 0, 0, 0, -1);
        Due.tell(x, "of 00001 from 012 to 0012 day 00345 to 20000");
        Due.due("one LINE", x.catalogue(), 1);
        Due.due("each digit in its place", x.span(0, 1, 0), 345);
        x.erase();
        Due.tell(x, "of 1 from 12 to 12 day 0 to 12345");
        x.catalogue();
        Due.due("five digits", x.span(0, 1, 1), 12345);
    }

    // ---- LINES

    private static void mostLines() {
        Due.says("LINES with ; (59) between, 8 at most");
        StringBuilder text = new StringBuilder();
        for (int n = 1; n <= 9; n++) {
            text.append(n == 1 ? "" : ";").append(SHORT);
            faultIs(text.toString(), n <= 8 ? NONE : 8 * 17 - 1);
            if (n <= 8) faultIs(text + ";", n < 8 ? text.length() + 1 : text.length());
        }
        faultIs(";" + SHORT, 0);
        faultIs(SHORT + ";;" + SHORT, 17);
        faultIs(SHORT + ":" + SHORT, 16);
        faultIs(SHORT + "," + SHORT, 16);
        faultIs(SHORT + "<" + SHORT, 16);
        faultIs(SHORT + " " + SHORT, 17);
    }

    private static void theCatalogue() {
        Due.says("catalogue: THE TEXT becomes THE CATALOGUE (and stays THE TEXT): how many LINES. NOT: it has a FAULT");
        ViewCards x = new ViewCards();
        x.card(0, 0, 1, 0, 0, 0, -1);
        Due.due("empty, it has a FAULT", x.catalogue(), NOT);
        Due.due("no LINES at first", x.count(6), 0);
        for (int lines = 8; lines >= 1; lines--) {
            x.erase();
            StringBuilder text = new StringBuilder();
            for (int i = 0; i < lines; i++) text.append(i == 0 ? "" : ";").append("of0from1to1back").append((lines + i) % 4);
            Due.tell(x, text.toString());
            Due.due("not yet", x.count(6), lines == 8 ? 0 : lines + 1);
            Due.due("so many LINES", x.catalogue(), lines);
            Due.due("so many", x.count(6), lines);
            Due.due("it stays THE TEXT", x.count(5), text.length());
            for (int i = 0; i < lines; i++) Due.due("LINE " + i, x.breaks(i), (lines + i) % 4 == 0 ? 0 : 1);
            Due.due("no LINE -1", x.breaks(-1), UNKNOWN);
            Due.due("no LINE " + lines, x.breaks(lines), UNKNOWN);
            x.write(Due.word("!"), 1);
            Due.due("it has a FAULT", x.catalogue(), NOT);
            Due.due("THE CATALOGUE stays", x.count(6), lines);
            Due.due("and is as it was", x.breaks(0), lines % 4 == 0 ? 0 : 1);
        }
    }

    private static void linesBefore() {
        Due.says("THE TEXT becomes THE CATALOGUE");
        ViewCards x = new ViewCards();
        x.card(0, 0, 1, 0, 0, 0, -1);
        String[] days = {"20 to 80", "30 to 90", "40 to 70"};
        for (int lines = 3; lines >= 1; lines--) {
            x.erase();
            for (int i = 0; i < lines; i++) Due.tell(x, (i == 0 ? "" : ";") + "of 0 from 1 to 1 day " + days[i]);
            // Twice, so that neither LINES of this CATALOGUE nor of the one before are left.
            for (int again = 0; again < 2; again++) {
                Due.due(lines + " LINES", x.catalogue(), lines);
                Due.due("first day by " + lines + " LINES", x.span(0, 1, 0), 10 + 10 * lines);
                Due.due("last day by " + lines + " LINES", x.span(0, 1, 1), lines == 3 ? 70 : 80);
            }
            Due.tell(x, "; of 0 from 1 to 1 day 0 to 1; of");
            Due.due("the FAULT", x.fault(), x.count(5));
            Due.due("last day, being read", x.span(0, 1, 1), lines == 3 ? 70 : 80);
        }
    }

    // ---- BREAKS

    /** Whether the one CARD breaks the one LINE. */
    private static void breaks(ViewCards x, String line, long due) {
        x.erase();
        Due.tell(x, line);
        Due.due(line + " is a LINE", x.catalogue(), 1);
        Due.due("CARDS that BREAK " + line, x.breaks(0), due);
    }

    private static void breaksBacks() {
        Due.says("BREAKS a LINE of BACKS, if it is of P, with a NUMBER from A to B, and has another BACK");
        for (int publisher = 0; publisher < 5; publisher++) {
            for (int back = 0; back < 5; back++) {
                ViewCards x = new ViewCards();
                x.card(0, publisher, 7, back, 0, 0, -1);
                for (int p = 0; p < 5; p++) breaks(x, "of " + p + " from 7 to 7 back 3", p == publisher && back != 3 ? 1 : 0);
                for (int k = 0; k < 5; k++) breaks(x, "of " + publisher + " from 7 to 7 back " + k, k != back ? 1 : 0);
            }
        }
        ViewCards x = new ViewCards();
        int[] numbers = {0, 1, 2, 3, 4, 5, 6, 7, 97, 98, 99};
        for (int number : numbers) x.card(0, 0, number, 0, 0, 0, -1);
        int[][] lines = {{1, 99}, {1, 1}, {2, 2}, {3, 6}, {99, 99}, {98, 99}, {8, 96}};
        for (int[] line : lines) {
            long due = 0;
            for (int i = 0; i < numbers.length; i++) if (numbers[i] >= line[0] && numbers[i] <= line[1]) due |= 1L << i;
            breaks(x, "of 0 from " + line[0] + " to " + line[1] + " back 1", due);
            breaks(x, "of 0 from " + line[0] + " to " + line[1] + " back 0", 0);
        }
    }

    private static void breaksDays() {
        Due.says("BREAKS .. a LINE of days, if its PUBLISHED cannot be from D to E");
        for (int from = 8; from <= 14; from++) {
            for (int to = from; to <= 14; to++) {
                ViewCards x = new ViewCards();
                x.card(0, 0, 7, 0, 0, 0, -1);
                x.card(0, 0, 8, 1, 0, 0, -1);
                x.back(0, 10, 12);
                boolean canBe = from <= 12 && to >= 10;
                breaks(x, "of 0 from 7 to 7 day " + from + " to " + to, canBe ? 0 : 1);
                breaks(x, "of 0 from 6 to 8 day " + from + " to " + to, canBe ? 0 : 1);
                breaks(x, "of 0 from 8 to 8 day " + from + " to " + to, 0);
                breaks(x, "of 1 from 7 to 7 day " + from + " to " + to, 0);
            }
        }
        ViewCards x = new ViewCards();
        int[] numbers = {0, 3, 4, 6, 7, 99};
        for (int number : numbers) x.card(0, 2, number, 1, 0, 0, -1);
        x.back(1, 1, 20000);
        breaks(x, "of 2 from 4 to 6 day 0 to 0", 0b1100);
        breaks(x, "of 2 from 4 to 6 day 0 to 1", 0);
        breaks(x, "of 2 from 1 to 99 day 0 to 0", 0b111110);
        x.back(1, 0, 19999);
        breaks(x, "of 2 from 3 to 7 day 20000 to 20000", 0b11110);
        breaks(x, "of 2 from 3 to 7 day 19999 to 20000", 0);
    }

    private static void breaksWithoutAllLines() {
        Due.says("(by SPANS without all LINES; there is no QUARREL); NOT: a LINE of days, and there is a QUARREL without all LINES");
        ViewCards x = new ViewCards();
        x.card(0, 0, 1, 0, World.TOWN, 0, 100);
        x.card(0, 0, 2, 0, World.TOWN, 0, -1);
        x.card(0, 0, 3, 1, 0, 0, -1);
        x.later(2, 1);
        Due.tell(x, "of 0 from 2 to 2 day 0 to 4;of 0 from 2 to 2 day 9 to 9;of 0 from 1 to 3 back 0;of 0 from 3 to 3 day 0 to 5");
        Due.due("four LINES", x.catalogue(), 4);
        Due.due("the LINES quarrel", x.quarrel(), 1);
        int[] due = {0, 0, 4, 0};
        for (int i = 0; i < 4; i++) Due.due("no LINE counts, " + i, x.breaks(i), due[i]);
        x.feature(0, 5, 20000);
        x.shows(0, 0, 1);
        int[] byTaken = {2, 0, 4, 4};
        for (int i = 0; i < 4; i++) Due.due("by TAKEN of its NEGATIVE, " + i, x.breaks(i), byTaken[i]);
        x.feature(0, 101, 20000);
        int[] byQuarrel = {NOT, NOT, 4, NOT};
        for (int i = 0; i < 4; i++) Due.due("a QUARREL without all LINES, " + i, x.breaks(i), byQuarrel[i]);
        Due.due("no LINE 4", x.breaks(4), UNKNOWN);
        x.feature(0, 100, 20000);
        int[] byDay = {2, 2, 4, 4};
        for (int i = 0; i < 4; i++) Due.due("no QUARREL again, " + i, x.breaks(i), byDay[i]);
    }

    private static void breaksThere() {
        Due.says("CARDS (THERE) that BREAK LINE i, by bits");
        ViewCards x = new ViewCards();
        for (int i = 0; i < 20; i++) {
            if (i == 10) x.days(1);
            x.card(0, 0, 1 + i, i % 2, 0, 0, -1);
        }
        x.back(1, 50, 60);
        breaks(x, "of 0 from 1 to 20 back 0", 0xaaaaa);
        breaks(x, "of 0 from 1 to 20 back 1", 0x55555);
        breaks(x, "of 0 from 1 to 20 back 2", 0xfffff);
        breaks(x, "of 0 from 20 to 20 day 0 to 49", 0x80000);
        x.set(1, 0);
        breaks(x, "of 0 from 1 to 20 back 2", 0x3ff);
        breaks(x, "of 0 from 1 to 20 day 61 to 70", 0x2aa);
        x.set(1, 1);
        x.shows(19, 0, 0);
        breaks(x, "of 0 from 1 to 1 day 0 to 1", NOT);
        x.set(1, 0);
        breaks(x, "of 0 from 1 to 1 day 0 to 1", 0);
    }

    // ---- count

    private static void counts() {
        Due.says("count: 0 CARDS in all, 1 those THERE, 2 NEGATIVES, 3 ONE, 4 THE DAY, 5 bytes, 6 LINES, 7 LATER. OUTSIDE");
        ViewCards x = new ViewCards();
        for (int what = 0; what < 8; what++) Due.due("count(" + what + ") at first", x.count(what), 0);
        for (int odd : new int[] {-1, 8}) Due.due("count(" + odd + ")", x.count(odd), OUTSIDE);
        for (int i = 0; i < 20; i++) x.card(i % 2, 0, 1 + i / 2, 0, i < 15 ? World.TOWN : 0, 0, -1);
        for (int i = 0; i < 12; i++) x.later(19, i);
        for (int i = 0; i < 10; i++) x.days(99);
        x.days(9);
        StringBuilder text = new StringBuilder(SHORT);
        for (int i = 1; i < 8; i++) text.append(';').append(SHORT);
        Due.tell(x, text + blanks(160 - text.length()));
        x.catalogue();
        int[] most = {20, 20, 2, 11, 999, 160, 8, 12};
        // NUMBER 8 is that of CARDS 14 and 15, which are not of one NEGATIVE.
        for (int what = 0; what < 8; what++) Due.due("count(" + what + ") at the most", x.count(what), most[what]);
    }

    public static void main(String[] args) {
        bytesAtOnce();
        mostBytes();
        erased();
        everyByte();
        blanksBetween();
        firstTokenThatCannotStand();
        endTooSoon();
        numberBounds();
        digits();
        mostLines();
        theCatalogue();
        linesBefore();
        breaksBacks();
        breaksDays();
        breaksWithoutAllLines();
        breaksThere();
        counts();
        Due.end();
    }
}
