/** Every promise of the document: ordinary inputs, the edges that it names, wrong inputs. Answers are reckoned by hand. */
public final class PromisesTest {
    private static final int NONE = LeftQuills.NONE;
    private static final int UNKNOWN = LeftQuills.UNKNOWN;
    private static final int OUTSIDE = LeftQuills.OUTSIDE;
    private static final int NOT = LeftQuills.NOT;
    private static final int FULL = LeftQuills.FULL;
    private static final int LOWEST = Integer.MIN_VALUE;
    private static final int HIGHEST = Integer.MAX_VALUE;
    /** Wear of a page: hand 0 by quill 6, 8, 16, 8; hand 1: 13, 7, 28, 6; hand 2: 3, 6, 8, 6. */
    private static final String TEXT =
        "o2 3;q0 2 3 20 4;q1 3 5 12 5;q0 5 0 6 4;q1 1 9 40 7;h0 4 4;h1 6 6;h0 2 9;";
    private static final Due DUE = new Due();

    public static void main(String[] args) {
        newObject();
        feed();
        office();
        textsOfBlanks();
        officeClears();
        faultsOfLetters();
        faultsOfNumbers();
        faultsOfTooMany();
        told();
        quill();
        hand();
        write();
        dry();
        mend();
        broaden();
        whet();
        drift();
        undo();
        undoHasTwenty();
        fullOfMinutes();
        goodPages();
        life();
        toWhom();
        fastest();
        fastestByBluntBlade();
        byTurns();
        dearer();
        geese();
        crooked();
        worn();
        whose();
        lookAt();
        note();
        tear();
        judge();
        seed();
        keep();
        goBack();
        DUE.end();
    }

    private static LeftQuills told(String text) {
        return Due.with(text);
    }

    private static void newObject() {
        LeftQuills x = new LeftQuills();
        for (int what = 0; what <= 12; what++) {
            DUE.is("1 told(" + what + ")", x.told(what), 0);
        }
        DUE.is("1 fault", x.fault(), NONE);
        DUE.is("1 quill", x.quill(0, 0), UNKNOWN);
        DUE.is("1 hand", x.hand(0, 0), UNKNOWN);
        DUE.is("1 write", x.write(0, 0, 1), UNKNOWN);
        DUE.is("1 dry", x.dry(0, 1), UNKNOWN);
        DUE.is("1 mend", x.mend(0), UNKNOWN);
        DUE.is("1 broaden", x.broaden(0), UNKNOWN);
        DUE.is("1 whet", x.whet(), NOT);
        DUE.is("1 drift", x.drift(1), NOT);
        DUE.is("1 undo", x.undo(), NOT);
        DUE.is("1 goodPages", x.goodPages(0, 0), UNKNOWN);
        DUE.is("1 toWhom", x.toWhom(NONE), 0);
        DUE.is("1 toWhom(0)", x.toWhom(0), UNKNOWN);
        DUE.is("1 dearer", x.dearer(), 100000);
        DUE.is("1 crooked", x.crooked(0, 0), 1000000000);
        DUE.is("1 whose", x.whose(), 0);
        DUE.is("1 lookAt", x.lookAt(), NONE);
        DUE.is("1 tear", x.tear(), 0);
        DUE.is("1 judge", x.judge(), NONE);
        DUE.is("1 goBack", x.goBack(0), NOT);
        DUE.is("1 seed", x.seed(5), 0);
        DUE.is("1 keep", x.keep(1), 1);
        DUE.is("1 goBack behind keep", x.goBack(1), 1);
    }

    private static void feed() {
        LeftQuills x = new LeftQuills();
        DUE.is("2 feed(-1)", x.feed(-1), OUTSIDE);
        DUE.is("2 feed(256)", x.feed(256), OUTSIDE);
        DUE.is("2 feed(lowest)", x.feed(LOWEST), OUTSIDE);
        DUE.is("2 feed(highest)", x.feed(HIGHEST), OUTSIDE);
        DUE.is("2 nothing came", x.told(4), 0);
        DUE.is("2 feed(0)", x.feed(0), 1);
        DUE.is("2 feed(255)", x.feed(255), 2);
        for (int n = 3; n <= 220; n++) {
            DUE.is("2 feed the " + n + "th", x.feed(32), n);
        }
        DUE.is("2 feed behind 220", x.feed(32), FULL);
        DUE.is("2 outside ahead of full", x.feed(256), OUTSIDE);
        DUE.is("2 still 220", x.told(4), 220);
        DUE.is("2 office takes them", x.office(), -11);
        DUE.is("2 feed again", x.feed(32), 1);
    }

    private static void office() {
        LeftQuills x = new LeftQuills();
        DUE.is("3 quills", Due.office(x, TEXT), 4);
        DUE.is("3 the text is empty", x.told(4), 0);
        DUE.is("3 no fault", x.fault(), NONE);
        DUE.is("3 hands", x.told(3), 3);
        DUE.is("3 blade alone", Due.office(x, "o1 20;"), 0);
        DUE.is("3 B", x.told(0), 1);
        DUE.is("3 M", x.told(1), 20);
        DUE.is("3 an office without quills", x.whet(), 0);
        DUE.is("3 blanks anywhere", Due.office(x, "  o  2   3 ;  h 1 9 9 ; q 1 5 9 99 9 ;  "), 1);
        DUE.is("3 hand ahead of quill", x.hand(0, 1), 9);
        DUE.is("3 length", x.quill(0, 3), 99);
        DUE.is("3 three figures", Due.office(x, "o002 003;q000 001 000 000 001;"), 1);
        DUE.is("3 B of three figures", x.told(0), 2);
        DUE.is("3 empty text", x.office(), 0);
        DUE.is("3 no office then", x.whet(), NOT);
        DUE.is("3 no quills then", x.told(2), 0);
        DUE.is("3 no B then", x.told(0), 0);
        DUE.is("3 eight quills, four hands", Due.office(x, "o1 1;" + "q0 1 0 0 1;".repeat(8) + "h0 1 1;".repeat(4)), 8);
        DUE.is("3 four hands", x.told(3), 4);
    }

    private static void textsOfBlanks() {
        for (int blanks : new int[] {1, 2, 3, 219, 220}) {
            LeftQuills x = new LeftQuills();
            DUE.is("3 blanks alone, " + blanks, Due.office(x, " ".repeat(blanks)), 0);
            DUE.is("4 no fault in blanks alone, " + blanks, x.fault(), NONE);
            DUE.is("3 blanks alone make no office, " + blanks, x.whet(), NOT);
            DUE.is("3 the text of blanks is empty then, " + blanks, x.told(4), 0);
        }
        LeftQuills x = told(TEXT);
        x.write(0, 0, 9);
        x.mend(1);
        x.worn(0, 1, 6);
        x.note(0, 6);
        x.keep(0);
        x.whet();
        x.seed(77);
        DUE.is("3 a fault ahead of blanks alone", Due.office(x, "  q"), -11);
        DUE.is("4 the fault ahead of blanks alone", x.fault(), 2);
        DUE.is("3 blanks alone behind an office", Due.office(x, "  "), 0);
        DUE.is("4 the fault is gone by blanks alone", x.fault(), NONE);
        for (int what = 0; what <= 12; what++) {
            DUE.is("3 blanks alone leave nothing told(" + what + ")", x.told(what), 0);
        }
        DUE.is("3 blanks alone leave no quill", x.quill(0, 0), UNKNOWN);
        DUE.is("3 blanks alone leave no hand", x.hand(0, 0), UNKNOWN);
        DUE.is("3 blanks alone leave no image", x.goBack(0), NOT);
        DUE.is("3 blanks alone leave nothing to undo", x.undo(), NOT);
        DUE.is("3 blanks alone leave no office", x.drift(1), NOT);
        DUE.is("3 the seed stays by blanks alone", x.seed(0), 77);
        DUE.is("3 an office behind blanks alone", Due.office(x, " " + TEXT), 4);
    }

    private static void officeClears() {
        LeftQuills x = told(TEXT);
        x.write(0, 0, 9);
        x.mend(1);
        x.worn(0, 1, 6);
        x.note(0, 6);
        x.keep(0);
        x.broaden(1);
        x.seed(77);
        DUE.is("3 a fault", Due.office(x, "o1 1"), -11);
        DUE.is("3 the text is empty with a fault", x.told(4), 0);
        DUE.is("3 pages as they were", x.told(7), 9);
        DUE.is("3 undone can be", x.told(12), 1);
        DUE.is("3 worn as it was", x.told(10), 1);
        DUE.is("3 quills as they were", x.told(2), 4);
        Due.office(x, TEXT);
        DUE.is("3 fault is gone", x.fault(), NONE);
        for (int what = 5; what <= 12; what++) {
            DUE.is("3 nothing told(" + what + ")", x.told(what), 0);
        }
        DUE.is("3 length", x.quill(1, 3), 12);
        DUE.is("3 nib", x.quill(1, 4), 5);
        DUE.is("3 softness", x.quill(0, 6), 0);
        DUE.is("3 images are gone", x.goBack(0), NOT);
        DUE.is("3 undo is gone", x.undo(), NOT);
        DUE.is("3 the seed stays", x.seed(0), 77);
    }

    private static void fault(String text, int number, int at) {
        LeftQuills x = new LeftQuills();
        DUE.is("3 office of " + text, Due.office(x, text), -10 - number);
        DUE.is("4 fault of " + text, x.fault(), at);
        x.office();
        DUE.is("4 fault behind it", x.fault(), NONE);
    }

    private static void faultsOfLetters() {
        fault("x", 1, 0);
        fault("q0 1 0 0 1;", 1, 0);
        fault("  h0 1 1;", 1, 2);
        fault(";", 1, 0);
        fault("7", 1, 0);
        fault("   x", 1, 3);
        fault("   ;", 1, 3);
        fault("   \t", 1, 3);
        fault("o", 1, 1);
        fault("o  ", 1, 3);
        fault("o1", 1, 2);
        fault("o1 1", 1, 4);
        fault("o1 1  ", 1, 6);
        fault("o1;", 1, 2);
        fault("o1 1 1;", 1, 5);
        fault("o1 1 1111;", 1, 5);
        fault("o1 o", 1, 3);
        fault("o1 1;O", 1, 5);
        fault("o1 1;;", 1, 5);
        fault("o1 1;5", 1, 5);
        fault("o-1 1;", 1, 1);
        fault("o1\t1;", 1, 2);
        fault("o1 1;q0 1 0 0;", 1, 13);
        fault("o1 1;q0 1 0 0 1", 1, 15);
        fault("o1 1;h0 1 1 1;", 1, 12);
        fault("o1 1;h0q", 1, 7);
        fault("o1 1;" + (char) 255, 1, 5);
        fault("o1 1;" + (char) 0, 1, 5);
    }

    private static void faultsOfNumbers() {
        fault("o0 1;", 2, 1);
        fault("o21 1;", 2, 1);
        fault("o1 0;", 2, 3);
        fault("o1 21;", 2, 3);
        fault("o0001 1;", 2, 1);
        fault("o0010 1;", 2, 1);
        fault("o1 1;q0 1 0 0000 1;", 2, 12);
        fault("o1 1;h0 1 0050;", 2, 10);
        fault("o99999999999999999999 1;", 2, 1);
        fault("o21", 2, 1);
        fault("o21x", 2, 1);
        fault("o 999;", 2, 2);
        fault("o1 1;q2 1 0 0 1;", 2, 6);
        fault("o1 1;q0 0 0 0 1;", 2, 8);
        fault("o1 1;q0 6 0 0 1;", 2, 8);
        fault("o1 1;q0 1 10 0 1;", 2, 10);
        fault("o1 1;q0 1 0 100 1;", 2, 12);
        fault("o1 1;q0 1 0 0 0;", 2, 14);
        fault("o1 1;q0 1 0 0 10;", 2, 14);
        fault("o1 1;h2 1 1;", 2, 6);
        fault("o1 1;h0 0 1;", 2, 8);
        fault("o1 1;h0 10 1;", 2, 8);
        fault("o1 1;h0 1 0;", 2, 10);
        fault("o1 1;h0 1 10;", 2, 10);
    }

    private static void faultsOfTooMany() {
        fault("o1 1;o", 3, 5);
        fault("o1 1; o1 1;", 3, 6);
        String eight = "o1 1;" + "q0 1 0 0 1;".repeat(8);
        fault(eight + "q", 3, eight.length());
        fault(eight + " q9999", 3, eight.length() + 1);
        String four = "o1 1;" + "h0 1 1;".repeat(4);
        fault(four + "h0 1 1;", 3, four.length());
    }

    private static void told() {
        LeftQuills x = told(TEXT);
        x.feed('o');
        x.write(0, 0, 9);
        x.write(2, 1, 2);
        x.write(1, 2, 1);
        x.mend(1);
        x.worn(0, 1, 1);
        x.worn(0, 1, 1);
        x.note(0, 1);
        int[] due = {2, 3, 4, 3, 1, 27, 1, 12, 8, 5, 2, 1, 4};
        for (int what = 0; what < due.length; what++) {
            DUE.is("5 told(" + what + ")", x.told(what), due[what]);
        }
        DUE.is("5 told(-1)", x.told(-1), OUTSIDE);
        DUE.is("5 told(13)", x.told(13), OUTSIDE);
        DUE.is("5 told(lowest)", x.told(LOWEST), OUTSIDE);
        DUE.is("5 told(highest)", x.told(HIGHEST), OUTSIDE);
    }

    private static void quill() {
        LeftQuills x = told("o1 1;q0 1 0 0 1;q1 2 1 11 2;q0 3 2 22 3;q1 4 3 33 4;q0 5 9 99 9;");
        int[][] due = {{0, 1, 0, 0, 1, 3, 0}, {1, 2, 1, 11, 2, 6, 0}, {0, 3, 2, 22, 3, 7, 0}, {1, 4, 3, 33, 4, 7, 0}, {0, 5, 9, 99, 9, 12, 0}};
        for (int q = 0; q < due.length; q++) {
            for (int what = 0; what < 7; what++) {
                DUE.is("6 quill(" + q + ", " + what + ")", x.quill(q, what), due[q][what]);
            }
        }
        DUE.is("6 outside", x.quill(0, 7), OUTSIDE);
        DUE.is("6 outside", x.quill(4, -1), OUTSIDE);
        DUE.is("6 unknown", x.quill(5, 0), UNKNOWN);
        DUE.is("6 unknown", x.quill(-1, 0), UNKNOWN);
        DUE.is("6 unknown ahead of outside", x.quill(LOWEST, HIGHEST), UNKNOWN);
    }

    private static void hand() {
        LeftQuills x = told(TEXT);
        x.write(0, 0, 9);
        int[] due = {0, 4, 4, 9, 8};
        for (int what = 0; what < 5; what++) {
            DUE.is("7 hand(0, " + what + ")", x.hand(0, what), due[what]);
        }
        DUE.is("7 left", x.hand(1, 0), 1);
        DUE.is("7 wants", x.hand(2, 2), 9);
        DUE.is("7 no pages", x.hand(2, 3), 0);
        DUE.is("7 outside", x.hand(0, 5), OUTSIDE);
        DUE.is("7 outside", x.hand(0, -1), OUTSIDE);
        DUE.is("7 unknown", x.hand(3, 0), UNKNOWN);
        DUE.is("7 unknown ahead of outside", x.hand(-1, 9), UNKNOWN);
    }

    private static void write() {
        LeftQuills x = told(TEXT);
        DUE.is("8 unknown quill", x.write(4, 0, 1), UNKNOWN);
        DUE.is("8 unknown hand", x.write(0, 3, 1), UNKNOWN);
        DUE.is("8 unknown ahead of outside", x.write(0, -1, 0), UNKNOWN);
        DUE.is("8 outside", x.write(0, 0, 0), OUTSIDE);
        DUE.is("8 outside", x.write(0, 0, 41), OUTSIDE);
        DUE.is("8 nothing is done", x.told(12), 0);
        DUE.is("8 nib 1 beside", x.write(1, 0, 1), 1);
        DUE.is("8 4 more", x.quill(1, 6), 8);
        DUE.is("8 nib 2 beside", x.write(1, 2, 1), 0);
        DUE.is("8 softer all the same", x.quill(1, 6), 14);
        DUE.is("8 eight are good", x.write(0, 0, 40), 8);
        DUE.is("8 99 at most", x.quill(0, 6), 99);
        DUE.is("8 minutes", x.told(5), 84);
        DUE.is("8 pages", x.hand(0, 3), 41);
        DUE.is("8 one thing each", x.told(12), 3);
        LeftQuills y = told("o1 1;q0 2 9 0 5;q1 2 9 0 5;q0 4 4 0 5;h0 1 5;h0 5 6;h1 5 4;");
        DUE.is("8 one at least", y.write(0, 0, 40), 40);
        DUE.is("8 one each", y.quill(0, 6), 40);
        DUE.is("8 fifty is not soft", y.write(0, 0, 11), 10);
        DUE.is("8 above fifty", y.quill(0, 6), 51);
        DUE.is("8 one and four", y.write(1, 0, 1), 1);
        DUE.is("8 one and four", y.quill(1, 6), 5);
        DUE.is("8 60 / 8", y.write(2, 1, 1), 1);
        DUE.is("8 60 / 8", y.quill(2, 6), 7);
        DUE.is("8 other side, 1 finer", y.write(2, 2, 1), 1);
        DUE.is("8 other side", y.quill(2, 6), 18);
    }

    private static void dry() {
        LeftQuills x = told(TEXT);
        DUE.is("9 at 0", x.dry(0, 9), 0);
        x.write(0, 0, 8);
        DUE.is("9 unknown", x.dry(4, 0), UNKNOWN);
        DUE.is("9 unknown", x.dry(-1, 1), UNKNOWN);
        DUE.is("9 outside", x.dry(0, 0), OUTSIDE);
        DUE.is("9 outside", x.dry(0, 10), OUTSIDE);
        DUE.is("9 an hour", x.dry(0, 1), 40);
        DUE.is("9 three hours", x.dry(0, 3), 16);
        DUE.is("9 a third", x.dry(0, 2), 5);
        DUE.is("9 a third, cut", x.dry(0, 1), 1);
        DUE.is("9 a third of 1", x.dry(0, 1), 0);
        DUE.is("9 no minutes", x.told(5), 16);
        DUE.is("9 done", x.told(12), 7);
    }

    private static void mend() {
        LeftQuills x = told(TEXT);
        DUE.is("10 unknown", x.mend(4), UNKNOWN);
        DUE.is("10 unknown", x.mend(-1), UNKNOWN);
        x.write(0, 0, 9);
        DUE.is("10 sharp", x.mend(0), 15);
        DUE.is("10 softness", x.quill(0, 6), 0);
        DUE.is("10 nib", x.quill(0, 4), 4);
        DUE.is("10 minutes", x.told(5), 21);
        DUE.is("10 cuts", x.told(6), 1);
        DUE.is("10 second cut is sharp", x.mend(2), 1);
        DUE.is("10 too short", x.mend(2), NOT);
        DUE.is("10 blunt", x.mend(0), 6);
        DUE.is("10 nib is broader", x.quill(0, 4), 5);
        DUE.is("10 too short for blunt", x.mend(0), NOT);
        DUE.is("10 cuts", x.told(6), 3);
        x.whet();
        DUE.is("10 long enough for sharp", x.mend(0), 1);
        DUE.is("10 nib stays", x.quill(0, 4), 5);
        LeftQuills y = told("o1 20;q0 1 0 5 9;q0 1 0 9 9;q0 1 0 8 9;q0 1 0 4 9;h0 1 9;");
        DUE.is("10 four", y.mend(3), NOT);
        DUE.is("10 five is enough", y.mend(0), 0);
        DUE.is("10 eight, blunt", y.mend(2), NOT);
        DUE.is("10 nine is enough, blunt", y.mend(1), 0);
        DUE.is("10 nib 9 at most", y.quill(1, 4), 9);
        DUE.is("10 M each", y.told(5), 40);
    }

    private static void broaden() {
        LeftQuills x = told(TEXT);
        DUE.is("11 unknown", x.broaden(4), UNKNOWN);
        DUE.is("11 unknown", x.broaden(LOWEST), UNKNOWN);
        DUE.is("11 broader", x.broaden(3), 8);
        DUE.is("11 broader", x.broaden(3), 9);
        DUE.is("11 not above 9", x.broaden(3), NOT);
        DUE.is("11 cuts", x.told(6), 2);
        DUE.is("11 no minutes", x.told(5), 0);
        DUE.is("11 length stays", x.quill(3, 3), 40);
        DUE.is("11 done", x.told(12), 2);
        DUE.is("11 the blade is blunt by it", x.mend(0), 11);
    }

    private static void whet() {
        LeftQuills x = told(TEXT);
        DUE.is("12 sharp", x.whet(), 0);
        x.broaden(0);
        x.mend(3);
        DUE.is("12 cuts", x.whet(), 2);
        DUE.is("12 no cuts", x.told(6), 0);
        DUE.is("12 minutes", x.told(5), 13);
        DUE.is("12 done", x.told(12), 4);
        x.office();
        DUE.is("12 no office", x.whet(), NOT);
    }

    private static void drift() {
        LeftQuills x = told("o1 3;q0 2 3 20 4;h0 4 4;");
        DUE.is("13 outside", x.drift(0), OUTSIDE);
        DUE.is("13 outside", x.drift(61), OUTSIDE);
        DUE.is("13 none is done", x.told(12), 0);
        long seed = 0;
        int minutes = 0;
        int soft = 0;
        int length = 20;
        int cuts = 0;
        for (int i = 0; i < 60; i++) {
            for (int k = 0; k < 3; k++) {
                seed = (seed * 1103515245L + 12345L) % 2147483648L;
            }
            int kind = (int) (seed / 65536 % 3);
            int off = cuts >= 1 ? 9 : 5;
            if (kind == 0 && length >= off) {
                length -= off;
                cuts++;
                soft = 0;
                minutes += 3;
            } else if (kind == 1) {
                soft = Math.max(soft - 8, soft / 3);
            } else if (kind == 2) {
                soft = Math.min(99, soft + 6);
                minutes += 2;
            }
            DUE.is("13 drift(1)", x.drift(1), minutes);
            DUE.is("13 softness", x.quill(0, 6), soft);
            DUE.is("13 length", x.quill(0, 3), length);
        }
        DUE.is("13 the seed", x.seed(0), seed);
        DUE.is("13 twenty are kept", x.told(12), 20);
        LeftQuills y = told("o1 3;q0 2 3 20 4;h0 4 4;");
        DUE.is("13 sixty at once", y.drift(60), minutes);
        DUE.is("13 one thing", y.told(12), 1);
        LeftQuills z = told("o1 3;q0 2 3 20 4;");
        z.seed(9);
        DUE.is("13 nothing without hands", z.drift(5), 0);
        DUE.is("13 no draw", z.seed(9), 9);
        DUE.is("13 done all the same", z.told(12), 1);
        z.office();
        DUE.is("13 no office", z.drift(5), NOT);
        DUE.is("13 outside ahead of not", z.drift(0), OUTSIDE);
    }

    private static void undo() {
        LeftQuills x = told(TEXT);
        DUE.is("14 none", x.undo(), NOT);
        x.seed(5);
        x.write(0, 0, 9);
        x.dry(0, 1);
        x.mend(0);
        x.broaden(0);
        x.whet();
        x.drift(7);
        int seed = x.seed(0);
        x.seed(seed);
        x.dry(0, 99);
        x.worn(0, 1, 6);
        x.note(0, 6);
        DUE.is("14 drift", x.undo(), 5);
        DUE.is("14 minutes", x.told(5), 26);
        DUE.is("14 the seed stays", x.seed(0), seed);
        DUE.is("14 worn stays", x.told(10), 1);
        DUE.is("14 the book stays", x.told(11), 1);
        DUE.is("14 whet", x.undo(), 4);
        DUE.is("14 cuts", x.told(6), 2);
        DUE.is("14 broaden", x.undo(), 3);
        DUE.is("14 nib", x.quill(0, 4), 4);
        DUE.is("14 mend", x.undo(), 2);
        DUE.is("14 length", x.quill(0, 3), 20);
        DUE.is("14 softness", x.quill(0, 6), 46);
        DUE.is("14 dry", x.undo(), 1);
        DUE.is("14 softness", x.quill(0, 6), 54);
        DUE.is("14 write", x.undo(), 0);
        DUE.is("14 pages", x.hand(0, 3), 0);
        DUE.is("14 good ones", x.hand(0, 4), 0);
        DUE.is("14 minutes", x.told(5), 0);
        DUE.is("14 no more", x.undo(), NOT);
    }

    private static void undoHasTwenty() {
        LeftQuills x = told(TEXT);
        for (int i = 0; i < 33; i++) {
            x.write(3, 2, 1);
        }
        for (int left = 19; left >= 0; left--) {
            DUE.is("14 more", x.undo(), left);
            DUE.is("14 pages", x.told(7), left + 13);
        }
        DUE.is("14 the oldest are lost", x.undo(), NOT);
        DUE.is("14 pages stay", x.told(7), 13);
    }

    /** It takes more than the 512 calls that are promised; the words of promises 8, 10, 12, 13 are kept beyond them. */
    private static void fullOfMinutes() {
        LeftQuills x = told(TEXT);
        for (int i = 0; i < 1125; i++) {
            x.write(0, 0, 40);
        }
        DUE.is("8 at 90000", x.told(5), 90000);
        DUE.is("8 90000 is not above", x.write(0, 0, 1), 0);
        DUE.is("8 full", x.write(0, 0, 1), FULL);
        DUE.is("8 outside ahead of full", x.write(0, 0, 0), OUTSIDE);
        DUE.is("10 full", x.mend(0), FULL);
        DUE.is("12 full", x.whet(), FULL);
        DUE.is("13 full", x.drift(1), FULL);
        DUE.is("9 never full", x.dry(0, 1), 91);
        DUE.is("11 never full", x.broaden(0), 5);
        DUE.is("8 nothing changed", x.told(5), 90002);
        x.undo();
        x.undo();
        x.undo();
        DUE.is("12 not above again", x.whet(), 0);
    }

    private static void goodPages() {
        LeftQuills x = told(TEXT);
        int[][] due = {{8, 6, 3, 0}, {0, 7, 0, 8}, {0, 0, 0, 0}};
        for (int h = 0; h < 3; h++) {
            for (int q = 0; q < 4; q++) {
                DUE.is("15 goodPages(" + q + ", " + h + ")", x.goodPages(q, h), due[h][q]);
            }
        }
        x.write(0, 0, 5);
        DUE.is("15 from now", x.goodPages(0, 0), 3);
        x.write(0, 0, 4);
        DUE.is("15 soft", x.goodPages(0, 0), 0);
        DUE.is("15 nothing changes", x.quill(0, 6), 54);
        DUE.is("15 nothing changes", x.told(7), 9);
        DUE.is("15 unknown", x.goodPages(4, 0), UNKNOWN);
        DUE.is("15 unknown", x.goodPages(0, 3), UNKNOWN);
        DUE.is("15 unknown", x.goodPages(-1, -1), UNKNOWN);
        LeftQuills y = told("o1 1;q0 2 9 0 9;h0 1 8;");
        DUE.is("15 fifty", y.goodPages(0, 0), 50);
    }

    private static void life() {
        LeftQuills x = told(TEXT);
        DUE.is("16 four mends", x.life(0, 0), 40);
        DUE.is("16 two mends", x.life(1, 1), 21);
        DUE.is("16 wrong nib", x.life(0, 2), 0);
        x.write(0, 0, 3);
        DUE.is("16 from now", x.life(0, 0), 37);
        x.broaden(3);
        x.broaden(3);
        x.write(0, 0, 6);
        DUE.is("16 soft; sharp each time", x.life(0, 0), 32);
        DUE.is("16 nothing changes", x.quill(0, 3), 20);
        DUE.is("16 unknown", x.life(4, 0), UNKNOWN);
        DUE.is("16 unknown", x.life(0, -1), UNKNOWN);
        LeftQuills y = told("o1 1;q0 2 9 99 9;q0 2 9 94 9;q0 2 9 4 9;h0 1 8;");
        DUE.is("16 999 at most", y.life(0, 0), 999);
        DUE.is("16 below 999", y.life(1, 0), 950);
        DUE.is("16 no mend", y.life(2, 0), 50);
        y.write(2, 0, 40);
        y.write(2, 0, 20);
        DUE.is("16 soft, no mend", y.life(2, 0), 0);
    }

    private static void toWhom() {
        LeftQuills x = told(TEXT);
        DUE.is("17 how many", x.toWhom(NONE), 16);
        DUE.is("17 hand 0", x.toWhom(0), 0);
        DUE.is("17 hand 1", x.toWhom(1), 3);
        DUE.is("17 hand 2, the least left", x.toWhom(2), 1);
        DUE.is("17 unknown", x.toWhom(3), UNKNOWN);
        DUE.is("17 unknown", x.toWhom(-2), UNKNOWN);
        LeftQuills y = told("o1 1;q0 2 3 9 4;h0 4 4;h0 4 4;");
        DUE.is("17 fewer quills", y.toWhom(NONE), NONE);
        DUE.is("17 fewer quills", y.toWhom(1), NONE);
        DUE.is("17 unknown ahead of it", y.toWhom(2), UNKNOWN);
        LeftQuills z = told("o1 1;q0 2 9 9 4;q0 2 3 9 4;q0 2 9 9 4;h0 1 4;h0 4 4;h0 1 4;");
        // hands 0 and 2 have 50 by each quill; hand 1 has 16, 8, 16
        DUE.is("17 together", z.toWhom(NONE), 116);
        DUE.is("17 like ones", z.toWhom(0), 0);
        DUE.is("17 hand 1 leaves the lesser to hand 0", z.toWhom(1), 2);
        DUE.is("17 what is left", z.toWhom(2), 1);
        DUE.is("17 no hands", told("o1 1;q0 2 9 9 4;").toWhom(NONE), 0);
    }

    private static void fastest() {
        LeftQuills x = told(TEXT);
        DUE.is("18 unknown", x.fastest(3, 1, 0), UNKNOWN);
        DUE.is("18 unknown ahead of outside", x.fastest(-1, 0, 9), UNKNOWN);
        DUE.is("18 outside n", x.fastest(0, 0, NONE), OUTSIDE);
        DUE.is("18 outside n", x.fastest(0, 5, NONE), OUTSIDE);
        DUE.is("18 outside i", x.fastest(0, 4, 4), OUTSIDE);
        DUE.is("18 outside i", x.fastest(0, 1, 1), OUTSIDE);
        DUE.is("18 outside i", x.fastest(2, 1, -2), OUTSIDE);
        DUE.is("18 four by one", x.fastest(0, 4, NONE), 8);
        DUE.is("18 none", x.fastest(2, 1, NONE), NONE);
        DUE.is("18 none", x.fastest(2, 1, 0), NONE);
        x.write(0, 0, 6);
        x.write(1, 0, 5);
        x.write(2, 0, 2);
        // two good ones by 0, one by 1, one by 2
        DUE.is("18 two by 0", x.fastest(0, 2, NONE), 4);
        DUE.is("18 another is taken", x.fastest(0, 3, NONE), 7);
        DUE.is("18 page 0", x.fastest(0, 3, 0), 0);
        DUE.is("18 page 1", x.fastest(0, 3, 1), 0);
        DUE.is("18 page 2", x.fastest(0, 3, 2), 1);
        DUE.is("18 two are taken", x.fastest(0, 4, NONE), 10);
        DUE.is("18 page 3", x.fastest(0, 4, 3), 2);
        DUE.is("18 nothing changes", x.quill(0, 6), 36);
        LeftQuills y = told("o2 1;q0 1 0 5 4;q0 1 0 10 4;h0 9 4;");
        // 36 a page, so each page wants a mend or another quill; mend (1) is as dear as another (1)
        DUE.is("18 two", y.fastest(0, 2, NONE), 5);
        DUE.is("18 the lesser quill", y.fastest(0, 2, 1), 10);
        DUE.is("18 three", y.fastest(0, 3, NONE), 8);
        DUE.is("18 page 0", y.fastest(0, 3, 0), 0);
        DUE.is("18 page 1", y.fastest(0, 3, 1), 10);
        DUE.is("18 page 2", y.fastest(0, 3, 2), 1);
    }

    private static void fastestByBluntBlade() {
        LeftQuills x = told("o1 2;q0 1 0 18 4;h0 9 4;");
        DUE.is("18 two", x.fastest(0, 2, NONE), 6);
        DUE.is("18 it gets blunt: 18, 13, 4", x.fastest(0, 3, NONE), 10);
        DUE.is("18 too short then", x.fastest(0, 4, NONE), NONE);
        LeftQuills y = told("o1 2;q0 1 0 99 2;h0 1 4;");
        DUE.is("18 nib 2 for 4", y.fastest(0, 1, NONE), NONE);
        y.broaden(0);
        y.whet();
        DUE.is("18 nib 3 for 4", y.fastest(0, 1, 0), 0);
        LeftQuills z = told("o1 2;q0 1 0 99 2;q1 1 0 0 9;h0 1 4;");
        z.broaden(1);
        DUE.is("18 nib 9", z.told(6), 0);
        z.mend(0);
        DUE.is("18 a blunt mend makes it broader", z.fastest(0, 1, NONE), 4);
        DUE.is("18 mended", z.fastest(0, 1, 0), 10);
        DUE.is("18 then it writes on", z.fastest(0, 4, NONE), 10);
        DUE.is("18 not mended again", z.fastest(0, 4, 1), 0);
        LeftQuills w = told("o1 3;q0 2 9 99 2;q0 1 0 0 4;q0 1 0 9 1;h0 9 4;");
        w.broaden(2);
        // quill 1 has one good page; quill 0 none till it is mended, also where it was tried mended ahead
        DUE.is("18 quill 0 is mended", w.fastest(0, 2, NONE), 7);
        DUE.is("18 page 0", w.fastest(0, 2, 0), 10);
        DUE.is("18 page 1", w.fastest(0, 2, 1), 0);
    }

    private static void byTurns() {
        LeftQuills x = told(TEXT);
        DUE.is("19 two", x.byTurns(0, 0), 2);
        DUE.is("19 three", x.byTurns(2, 0), 3);
        DUE.is("19 wrong nib", x.byTurns(3, 0), NONE);
        x.write(0, 0, 9);
        // all of them are at 54 first, so the first page is soft
        DUE.is("19 as it is now", x.byTurns(0, 0), NONE);
        DUE.is("19 nothing changes", x.quill(0, 6), 54);
        DUE.is("19 unknown", x.byTurns(4, 0), UNKNOWN);
        DUE.is("19 unknown", x.byTurns(0, 3), UNKNOWN);
        LeftQuills y = told("o1 1;q0 2 9 0 9;q0 1 0 0 9;h0 1 8;h1 9 8;");
        DUE.is("19 one", y.byTurns(0, 0), 1);
        y.write(0, 0, 30);
        DUE.is("19 one, to 50", y.byTurns(0, 0), 1);
        y.write(0, 0, 1);
        DUE.is("19 one does no more", y.byTurns(0, 0), 2);
        // 40, 8, 48, 16 is too soft by five; 40, 2, 42, 3, 43, 3, 43 by six
        DUE.is("19 forty a page", y.byTurns(1, 1), 6);
        y.write(1, 0, 3);
        DUE.is("19 at 12, the first is soft at once", y.byTurns(1, 1), NONE);
    }

    private static void dearer() {
        LeftQuills x = told(TEXT);
        DUE.is("20 less", x.dearer(), 100000 + 8 + 3 - 6 - 7 - 8);
        x.write(1, 0, 6);
        DUE.is("20 from now", x.dearer(), 100000 + 8 + 3 - 8);
        DUE.is("20 no hands", told("o1 1;q0 2 9 0 9;").dearer(), 100000);
        DUE.is("20 right alone", told("o1 1;q1 2 9 0 9;h1 1 9;h1 1 8;").dearer(), 99900);
    }

    private static void geese() {
        LeftQuills x = told(TEXT);
        DUE.is("21 one", x.geese(0, 0, 400), 1);
        DUE.is("21 two", x.geese(0, 0, 401), 2);
        DUE.is("21 most", x.geese(2, 0, 99999), 1667);
        DUE.is("21 none", x.geese(0, 2, 1), NONE);
        DUE.is("21 outside", x.geese(0, 0, 0), OUTSIDE);
        DUE.is("21 outside ahead of none", x.geese(0, 2, 100000), OUTSIDE);
        DUE.is("21 unknown", x.geese(4, 0, 0), UNKNOWN);
        DUE.is("21 unknown", x.geese(0, 3, 1), UNKNOWN);
    }

    private static void crooked() {
        LeftQuills x = told(TEXT);
        DUE.is("22 no slits", x.crooked(0, 100), 1000000000);
        DUE.is("22 one", x.crooked(1, 1), 990000000);
        DUE.is("22 all crooked", x.crooked(1, 100), 0);
        DUE.is("22 none crooked", x.crooked(60, 0), 1000000000);
        DUE.is("22 cut each time", x.crooked(5, 33), 135012510);
        x.broaden(0);
        x.mend(3);
        DUE.is("22 by cuts", x.crooked(1, 10), 840000000);
        DUE.is("22 100 at most", x.crooked(2, 99), 0);
        DUE.is("22 outside", x.crooked(-1, 0), OUTSIDE);
        DUE.is("22 outside", x.crooked(61, 0), OUTSIDE);
        DUE.is("22 outside", x.crooked(0, -1), OUTSIDE);
        DUE.is("22 outside", x.crooked(0, 101), OUTSIDE);
    }

    private static void worn() {
        LeftQuills x = told(TEXT);
        DUE.is("23 unknown", x.worn(4, 0, 0), UNKNOWN);
        DUE.is("23 outside n", x.worn(0, 0, 0), OUTSIDE);
        DUE.is("23 outside n", x.worn(0, 10, 0), OUTSIDE);
        DUE.is("23 outside soft", x.worn(0, 1, -1), OUTSIDE);
        DUE.is("23 outside soft", x.worn(0, 1, 100), OUTSIDE);
        for (int n = 1; n <= 6; n++) {
            DUE.is("23 how much", x.worn(3, 9, 99), n);
        }
        DUE.is("23 full", x.worn(0, 1, 0), FULL);
        DUE.is("23 outside ahead of full", x.worn(0, 1, 100), OUTSIDE);
        DUE.is("23 six", x.told(10), 6);
        DUE.is("23 nothing to undo", x.told(12), 0);
    }

    private static void whose() {
        LeftQuills x = told(TEXT);
        DUE.is("24 all", x.whose(), 7);
        x.worn(1, 1, 6);
        DUE.is("24 hand 2", x.whose(), 4);
        x.worn(0, 1, 6);
        DUE.is("24 none", x.whose(), 0);
        x.tear();
        x.worn(2, 7, 99);
        DUE.is("24 99 at most, by 112 and 196, not by 56", x.whose(), 3);
        x.tear();
        x.worn(3, 1, 6);
        DUE.is("24 two alike", x.whose(), 6);
        x.write(3, 1, 2);
        DUE.is("24 from 0, not from now", x.whose(), 6);
        DUE.is("24 no hands", told("o1 1;q0 1 1 1 1;").whose(), 0);
    }

    private static void lookAt() {
        LeftQuills x = told(TEXT);
        DUE.is("25 the first that tells all", x.lookAt(), 0);
        x.worn(3, 1, 6);
        DUE.is("25 of two", x.lookAt(), 0);
        x.worn(1, 1, 6);
        DUE.is("25 one alone", x.lookAt(), NONE);
        x.worn(1, 1, 7);
        DUE.is("25 nobody", x.lookAt(), NONE);
        // 1, 1, 1 by quill 0; 4, 8, 4 by quill 1
        LeftQuills y = told("o1 1;q0 2 9 1 1;q0 1 0 1 1;h0 1 1;h0 2 1;h0 1 1;");
        DUE.is("25 quill 1 parts better", y.lookAt(), 1);
        LeftQuills z = told("o1 1;q0 1 0 1 1;q0 2 9 1 1;h0 3 1;h0 3 1;h0 3 9;");
        DUE.is("25 none parts them", z.lookAt(), NONE);
        DUE.is("25 no quills", told("o1 1;h0 3 1;h0 4 1;").lookAt(), NONE);
    }

    private static void note() {
        LeftQuills x = told(TEXT);
        DUE.is("26 unknown", x.note(4, 100), UNKNOWN);
        DUE.is("26 unknown", x.note(-1, 0), UNKNOWN);
        DUE.is("26 outside", x.note(0, -1), OUTSIDE);
        DUE.is("26 outside", x.note(0, 100), OUTSIDE);
        for (int n = 1; n <= 15; n++) {
            DUE.is("26 how many", x.note(n % 4, n == 15 ? 99 : 0), n);
        }
        DUE.is("26 full", x.note(0, 0), FULL);
        DUE.is("26 outside ahead of full", x.note(0, 100), OUTSIDE);
        DUE.is("26 fifteen", x.told(11), 15);
        DUE.is("26 the last is wrong", x.judge(), 14);
    }

    private static void tear() {
        LeftQuills x = told(TEXT);
        x.worn(0, 1, 6);
        x.worn(0, 2, 12);
        x.note(0, 1);
        DUE.is("27 both", x.tear(), 3);
        DUE.is("27 no worn", x.told(10), 0);
        DUE.is("27 no book", x.told(11), 0);
        DUE.is("27 all fit", x.whose(), 7);
        DUE.is("27 nothing is wrong", x.judge(), NONE);
        DUE.is("27 nothing", x.tear(), 0);
    }

    private static void judge() {
        LeftQuills x = told(TEXT);
        x.note(0, 0);
        x.note(1, 8);
        x.note(0, 6);
        DUE.is("28 the second", x.judge(), 1);
        x.write(1, 0, 1);
        DUE.is("28 the third", x.judge(), 2);
        x.write(0, 0, 1);
        DUE.is("28 the first", x.judge(), 0);
        x.undo();
        x.tear();
        x.note(1, 8);
        DUE.is("28 none", x.judge(), NONE);
    }

    private static void seed() {
        LeftQuills x = told(TEXT);
        DUE.is("29 0 at first", x.seed(HIGHEST), 0);
        DUE.is("29 outside", x.seed(-1), OUTSIDE);
        DUE.is("29 outside", x.seed(LOWEST), OUTSIDE);
        DUE.is("29 what it was", x.seed(0), HIGHEST);
        x.seed(HIGHEST);
        x.drift(1);
        long seed = HIGHEST;
        for (int i = 0; i < 3; i++) {
            seed = (seed * 1103515245L + 12345L) % 2147483648L;
        }
        DUE.is("29 behind three draws", x.seed(0), seed);
    }

    private static void keep() {
        LeftQuills x = told(TEXT);
        DUE.is("30 unknown", x.keep(2), UNKNOWN);
        DUE.is("30 unknown", x.keep(-1), UNKNOWN);
        x.write(0, 0, 1);
        DUE.is("30 unknown changes nothing", x.keep(HIGHEST), UNKNOWN);
        DUE.is("30 one can be undone", x.told(12), 1);
        DUE.is("30 kept", x.keep(0), 1);
        DUE.is("30 none can be undone", x.told(12), 0);
        x.write(0, 0, 1);
        DUE.is("30 kept anew", x.keep(0), 1);
        x.goBack(0);
        DUE.is("30 the later one", x.quill(0, 6), 12);
    }

    private static void goBack() {
        LeftQuills x = told(TEXT);
        DUE.is("31 not kept", x.goBack(0), NOT);
        DUE.is("31 unknown", x.goBack(2), UNKNOWN);
        DUE.is("31 unknown", x.goBack(-1), UNKNOWN);
        x.write(0, 0, 9);
        x.mend(1);
        x.broaden(2);
        x.seed(31);
        x.keep(1);
        x.drift(60);
        x.mend(3);
        x.worn(0, 1, 6);
        x.note(0, 54);
        DUE.is("31 not that one", x.goBack(0), NOT);
        DUE.is("31 back", x.goBack(1), 1);
        DUE.is("31 softness", x.quill(0, 6), 54);
        DUE.is("31 length", x.quill(1, 3), 7);
        DUE.is("31 nib", x.quill(2, 4), 5);
        DUE.is("31 pages", x.hand(0, 3), 9);
        DUE.is("31 good ones", x.hand(0, 4), 8);
        DUE.is("31 minutes", x.told(5), 21);
        DUE.is("31 cuts", x.told(6), 2);
        DUE.is("31 none can be undone", x.told(12), 0);
        DUE.is("31 worn stays", x.told(10), 1);
        DUE.is("31 the book stays", x.judge(), NONE);
        DUE.is("31 the seed", x.seed(1), 31);
        DUE.is("31 again", x.goBack(1), 1);
        DUE.is("31 the seed again", x.seed(1), 31);
    }
}
