/** Promises 28 to 33: THE TEXT, THE CATALOGUE, and the counts. */
public final class CatalogueTest {
    private static final int NONE = -1, UNKNOWN = -2, OUTSIDE = -3, NOT = -4, FULL = -5;
    private static final int LEAST = Integer.MIN_VALUE, MOST = Integer.MAX_VALUE;
    private static final String BACKS = "of 0 from 1 to 5 back 1", DAYS = "of 1 from 2 to 9 day 10 to 20";
    private static final String SHORT = "of0from1to1back0";

    private static void write() {
        ViewCards x = new ViewCards();
        for (int odd : new int[] {0, -1, 9, LEAST, MOST}) Due.due("write(0, " + odd + ")", x.write(0, odd), OUTSIDE);
        Due.due("none is written", x.count(5), 0);
        for (int i = 1; i <= 19; i++) Due.due("eight more", x.write(-1, 8), 8 * i);
        Due.due("one more", x.write(-1, 1), 153);
        Due.due("too many", x.write(-1, 8), FULL);
        Due.due("OUTSIDE ahead of FULL", x.write(-1, 9), OUTSIDE);
        Due.due("none more", x.count(5), 153);
        Due.due("just so many", x.write(-1, 7), 160);
        Due.due("one too many", x.write(-1, 1), FULL);
        Due.due("the first byte is wrong", x.fault(), 0);
        Due.due("erase", x.erase(), 160);
        Due.due("erase again", x.erase(), 0);
        Due.due("n of them alone", x.write(Due.word("of from"), 3), 3);
        Due.due("behind it", x.write(Due.word("0 from 1"), 8), 11);
        Due.due("in their order", x.fault(), 11);
        Due.tell(x, " to 5 back 1");
        Due.due("all of it", x.fault(), NONE);
        Due.due("a byte below 0 is one of 255", x.write(-1, 1), 24);
        Due.due("it cannot stand there", x.fault(), 23);
    }

    private static void faultIs(String text, int due) {
        Due.due("fault of '" + text + "'", Due.faultOf(text), due);
    }

    private static void fault() {
        faultIs("", 0);
        faultIs("   ", 3);
        faultIs(BACKS, NONE);
        faultIs(DAYS, NONE);
        faultIs(BACKS + ";" + DAYS, NONE);
        faultIs("  " + BACKS + "  ;  " + DAYS + "  ", NONE);
        faultIs(SHORT, NONE);
        faultIs("of0from1to1day5to5;" + SHORT, NONE);
        faultIs("of 4 from 1 to 99 back 4", NONE);
        faultIs("of 00004 from 01 to 00099 day 00000 to 20000", NONE);
        faultIs("of 0 from 7 to 7 day 20000 to 20000", NONE);
        // At the end, if it comes too soon, word by word.
        String[] starts = {"of", "of 0", "of 0 from", "of 0 from 1", "of 0 from 1 to", "of 0 from 1 to 5", "of 0 from 1 to 5 back",
            "of 0 from 1 to 5 day", "of 0 from 1 to 5 day 9", "of 0 from 1 to 5 day 9 to", BACKS + ";", BACKS + "; of"};
        for (String start : starts) {
            faultIs(start, start.length());
            faultIs(start + "  ", start.length() + 2);
            for (String odd : new String[] {"x", ";", "A", "!", "\t", "\n", "123456", "\u0000", "\u0080", "\u00ff", "of!"}) {
                boolean canStandThere = start.endsWith(";") && odd.startsWith("of");
                if (!canStandThere) faultIs(start + " " + odd + " 1", start.length() + 1);
            }
        }
        // A row of letters is one TOKEN, and so is one of digits.
        faultIs("off 0 from 1 to 5 back 1", 0);
        faultIs("o f 0", 0);
        faultIs("OF 0", 0);
        faultIs("of 0 fro 1", 5);
        faultIs("of 0 fromm 1", 5);
        faultIs("of 0 from 1 too 5", 12);
        faultIs("of 0 from 1 to 5 backs 1", 17);
        faultIs("of 0 from 1 to 5 bac 1", 17);
        faultIs("of 0 from 1 to 5 days 1", 17);
        faultIs("of 0 from 1 to 5 1", 17);
        faultIs("of 0 0 from 1", 5);
        faultIs("offrom", 0);
        // Numbers out of their bounds.
        faultIs("of 5 from 1 to 5 back 1", 3);
        faultIs("of 0 from 0 to 5 back 1", 10);
        faultIs("of 0 from 100 to 100 back 1", 10);
        faultIs("of 0 from 1 to 100 back 1", 15);
        faultIs("of 0 from 6 to 5 back 1", 15);
        faultIs("of 0 from 1 to 5 back 5", 22);
        faultIs("of 0 from 1 to 5 day 20001 to 20000", 21);
        faultIs("of 0 from 1 to 5 day 9 to 20001", 26);
        faultIs("of 0 from 1 to 5 day 9 to 8", 26);
        faultIs("of 000000 from 1", 3);
        faultIs("of 0 from 000001 to 5", 10);
        faultIs("of 0 from 1 to 5 day 9 to 000010", 26);
        faultIs("of 0 from 1 to 5 day 4294967296 to 5", 21);
        faultIs("of 0 from 1 to 5 day 99999999999999999999999 to 5", 21);
        faultIs("of -1 from 1", 3);
        // Behind a LINE there is another one or the end.
        faultIs(BACKS + " of 1", 24);
        faultIs(BACKS + ".", 23);
        faultIs(BACKS + " 1", 24);
        faultIs(BACKS + "1", 22);
        faultIs(BACKS + ";;" + BACKS, 24);
        faultIs(";" + BACKS, 0);
        faultIs(BACKS + " to 2", 24);
        faultIs(DAYS + " to 2", 30);
        faultIs(BACKS + ";" + "of 0 from 2 to 1 back 1", 24 + 15);
    }

    private static void mostLines() {
        StringBuilder eight = new StringBuilder(SHORT);
        for (int i = 1; i < 8; i++) eight.append(';').append(SHORT);
        faultIs(eight.toString(), NONE);
        faultIs(eight + ";", eight.length());
        faultIs(eight + " ;" + SHORT, eight.length() + 1);
        ViewCards x = new ViewCards();
        Due.tell(x, eight.toString());
        Due.due("eight LINES", x.catalogue(), 8);
        Due.due("the last of them", x.breaks(7), 0);
        Due.due("none behind", x.breaks(8), UNKNOWN);
        Due.tell(x, ";" + SHORT);
        Due.due("nine LINES", x.catalogue(), NOT);
        Due.due("eight stay", x.count(6), 8);
        x.card(0, 0, 1, 1, 0, 0, -1);
        Due.due("and are as they were", x.breaks(7), 1);
    }

    private static void fullText() {
        String blanks = " ".repeat(160);
        faultIs(blanks, 160);
        faultIs(blanks.substring(BACKS.length()) + BACKS, NONE);
        faultIs(BACKS + blanks.substring(BACKS.length()), NONE);
        String[] starts = {"of", "of 0", "of 0 from", "of 0 from 1", "of 0 from 1 to", "of 0 from 1 to 5", BACKS + ";", DAYS + ";",
            "of 0 from 1 to 5 back", "of 0 from 1 to 5 day", "of 0 from 1 to 5 day 9", "of 0 from 1 to 5 day 9 to"};
        for (String start : starts) {
            faultIs(blanks.substring(start.length()) + start, 160);
            faultIs(start + blanks.substring(start.length()), 160);
        }
        faultIs("a".repeat(160), 0);
        faultIs("of " + "1".repeat(157), 3);
        // What was there before it was erased is no more.
        ViewCards x = new ViewCards();
        Due.tell(x, BACKS);
        x.erase();
        Due.tell(x, BACKS.substring(0, BACKS.length() - 1));
        Due.due("too soon", x.fault(), BACKS.length() - 1);
    }

    private static void catalogue() {
        ViewCards x = new ViewCards();
        x.card(0, 0, 1, 0, 0, 0, -1);
        Due.tell(x, BACKS);
        Due.due("no LINES before", x.count(6), 0);
        Due.due("one LINE", x.catalogue(), 1);
        Due.due("THE TEXT stays", x.count(5), BACKS.length());
        Due.due("it is broken", x.breaks(0), 1);
        Due.due("again", x.catalogue(), 1);
        Due.tell(x, ";" + DAYS);
        Due.due("THE CATALOGUE is as it was", x.count(6), 1);
        Due.due("two LINES", x.catalogue(), 2);
        x.erase();
        Due.due("THE CATALOGUE stays", x.count(6), 2);
        Due.due("no TEXT, no CATALOGUE", x.catalogue(), NOT);
        Due.tell(x, "of 3 from 1 to 2 back 2; of 0 from 1 to 2 day 1 to 2; of 1 from 2 to 1");
        Due.due("the FAULT is far behind", x.fault(), 69);
        Due.due("NOT", x.catalogue(), NOT);
        Due.due("refused, two LINES", x.count(6), 2);
        Due.due("refused, the LINES are as they were", x.breaks(0), 1);
        x.erase();
        Due.tell(x, "of 0 from 1 to 2 back 0");
        Due.due("another", x.catalogue(), 1);
        Due.due("which is kept", x.breaks(0), 0);
        Due.due("the second is gone", x.breaks(1), UNKNOWN);
    }

    private static void breaksBacks() {
        ViewCards x = new ViewCards();
        x.card(0, 0, 2, 0, 0, 0, -1);
        x.card(0, 0, 3, 0, 0, 0, -1);
        x.card(0, 0, 3, 4, 0, 0, -1);
        x.card(1, 1, 3, 0, 0, 0, -1);
        x.card(0, 0, 0, 0, 0, 0, -1);
        x.card(3, 0, 6, 1, 0, 0, -1);
        x.card(0, 0, 7, 1, 0, 0, -1);
        x.days(1);
        x.card(0, 0, 4, 3, 0, 0, -1);
        Due.tell(x, "of 0 from 3 to 6 back 4");
        Due.due("a LINE", x.catalogue(), 1);
        Due.due("breaks(0)", x.breaks(0), 0b10100010);
        x.set(1, 0);
        Due.due("those THERE", x.breaks(0), 0b100010);
        x.back(0, 1, 1);
        x.later(0, 1);
        x.later(1, 0);
        Due.due("a QUARREL does not matter", x.breaks(0), 0b100010);
        for (int odd : new int[] {-1, 1, LEAST, MOST}) Due.due("breaks(" + odd + ")", x.breaks(odd), UNKNOWN);
    }

    private static void breaksTheLastOfTwenty() {
        ViewCards x = new ViewCards();
        for (int i = 0; i < 20; i++) x.card(0, 2, 1 + i, 3, 0, 0, -1);
        Due.tell(x, "of 2 from 1 to 20 back 2; of 2 from 20 to 20 back 1");
        x.catalogue();
        Due.due("all", x.breaks(0), 0xfffff);
        Due.due("the last", x.breaks(1), 0x80000);
    }

    private static void breaksDays() {
        ViewCards x = new ViewCards();
        x.card(0, 1, 2, 0, 0, 0, -1);
        x.card(0, 1, 9, 1, -1, 0, -1);
        x.card(0, 1, 1, 1, -1, 0, -1);
        x.card(0, 0, 5, 1, -1, 0, -1);
        x.card(0, 1, 0, 1, -1, 0, -1);
        Due.tell(x, DAYS + "; of 1 from 9 to 9 day 300 to 400");
        x.catalogue();
        Due.due("any day may be", x.breaks(0), 0);
        Due.due("the LINES quarrel", x.quarrel(), 1);
        int[][] spans = {{0, 9, 2}, {0, 10, 0}, {20, 30, 0}, {21, 30, 2}, {12, 13, 0}, {9, 21, 0}, {30, 9000, 2}};
        for (int[] span : spans) {
            x.back(1, span[0], span[1]);
            Due.due("BACK 1 from " + span[0] + " to " + span[1], x.breaks(0), span[2]);
        }
        Due.due("by SPANS without all LINES, this one's and others'", x.breaks(1), 0);
        x.back(0, 25, 28);
        Due.due("both", x.breaks(0), 3);
        x.feature(0, 29, 29);
        x.shows(0, 0, 1);
        Due.due("a QUARREL without all LINES", x.breaks(0), NOT);
        Due.due("UNKNOWN ahead of NOT", x.breaks(2), UNKNOWN);
        x.days(1);
        x.shows(0, 0, 2);
        x.card(2, 1, 3, 2, 5, 0, 9);
        Due.due("POSTED too early", x.breaks(0), 0b100011);
        x.set(1, 0);
        Due.due("those THERE", x.breaks(0), 3);
    }

    private static void count() {
        ViewCards x = new ViewCards();
        x.days(7);
        x.card(0, 0, 1, 0, 0, 0, -1);
        x.card(1, 0, 1, 0, 0, 0, -1);
        x.card(1, 0, 2, 0, 0, 0, -1);
        x.days(2);
        x.card(2, 0, 2, 0, -1, 0, -1);
        x.later(0, 1);
        x.later(3, 1);
        Due.tell(x, BACKS + ";" + DAYS);
        x.catalogue();
        x.write(59, 1);
        int[] due = {4, 4, 2, 3, 9, 54, 2, 2};
        for (int what = 0; what < 8; what++) Due.due("count(" + what + ")", x.count(what), due[what]);
        x.set(1, 8);
        int[] before = {4, 3, 1, 2, 9, 54, 2, 2};
        for (int what = 0; what < 8; what++) Due.due("count(" + what + ") as of day 8", x.count(what), before[what]);
        x.set(1, 6);
        int[] none = {4, 0, 0, 0, 9, 54, 2, 2};
        for (int what = 0; what < 8; what++) Due.due("count(" + what + ") as of day 6", x.count(what), none[what]);
        for (int odd : new int[] {-1, 8, LEAST, MOST}) Due.due("count(" + odd + ")", x.count(odd), OUTSIDE);
    }

    public static void main(String[] args) {
        write();
        fault();
        fullText();
        mostLines();
        catalogue();
        breaksBacks();
        breaksTheLastOfTwenty();
        breaksDays();
        count();
        Due.end();
    }
}
