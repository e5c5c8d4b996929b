import java.util.List;
import java.util.function.Supplier;
import java.util.function.ToIntFunction;

/** Promises 1 to 7 at their bounds: each sentence of the document that names one has a test of its own here. */
public final class EdgesOfficeTest {
    private static final int NONE = Edge.NONE, UNKNOWN = Edge.UNKNOWN, OUTSIDE = Edge.OUTSIDE, NOT = Edge.NOT, FULL = Edge.FULL;
    private static final int NO_FAULT = 0;
    private static final String EIGHT_QUILLS = "o1 1;" + "q0 1 0 0 1;".repeat(8);
    private static final String FOUR_HANDS = "o1 1;" + "h0 1 1;".repeat(4);
    private static final Due DUE = new Due();
    private static final Edge EDGE = new Edge(DUE);

    public static void main(String[] args) {
        promise1NoOffice();
        promise2LettersFrom0To255();
        promise2FullAt220();
        promise2OutsideAheadOfFull();
        promise2TakesAgainBehindOffice();
        promise3NumbersOfTheBlade();
        promise3NumbersOfAQuill();
        promise3NumbersOfAHand();
        promise3FiguresOneToThree();
        promise3BlanksAnywhereButWithinNumbers();
        promise3NumbersSideBySideNeedABlank();
        promise3BladeFirst();
        promise3BladeOnce();
        promise3EightQuills();
        promise3FourHands();
        promise3TheGreatestOffice();
        promise3LettersThatCannotStand();
        promise3TheEndIsAtTheLength();
        promise3TheFirstLetterWithAFault();
        promise3OfOneLetterTheLeastFault();
        promise3AFaultLeavesAllElse();
        promise3AnEmptyText();
        promise3AnOfficeStartsAnew();
        promise4NoneTillAFault();
        promise4TheLatestOffice();
        promise4FirstAndLastLetter();
        promise5WhatFrom0To12();
        promise5SoftAbove50();
        promise6WhatFrom0To6();
        promise6QuillsThereAre();
        promise6UnknownAheadOfOutside();
        promise7WhatFrom0To4();
        promise7HandsThereAre();
        promise7UnknownAheadOfOutside();
        DUE.end();
    }

    private static String blanks(int n) {
        return " ".repeat(n);
    }

    /** office() and fault() of a text to a new object; fault 0 is none. */
    private static void reads(String promise, String text, int quills, int fault, int at) {
        LeftQuills x = new LeftQuills();
        String what = promise + " office of '" + text + "'";
        DUE.is(what, Due.office(x, text), fault == NO_FAULT ? quills : -10 - fault);
        DUE.is(what + ", fault", x.fault(), fault == NO_FAULT ? NONE : at);
        DUE.is(what + ", the text is empty then", x.told(4), 0);
    }

    private static void faulty(String promise, String text, int fault, int at) {
        reads(promise, text, 0, fault, at);
    }

    private static void good(String promise, String text, int quills) {
        reads(promise, text, quills, NO_FAULT, NONE);
    }

    private static void promise1NoOffice() {
        Supplier<LeftQuills> anew = LeftQuills::new;
        EDGE.refused("1 quill", anew, x -> x.quill(0, 0), UNKNOWN);
        EDGE.refused("1 hand", anew, x -> x.hand(0, 0), UNKNOWN);
        EDGE.refused("1 write", anew, x -> x.write(0, 0, 1), UNKNOWN);
        EDGE.refused("1 dry", anew, x -> x.dry(0, 1), UNKNOWN);
        EDGE.refused("1 mend", anew, x -> x.mend(0), UNKNOWN);
        EDGE.refused("1 broaden", anew, x -> x.broaden(0), UNKNOWN);
        EDGE.refused("1 whet", anew, LeftQuills::whet, NOT);
        EDGE.refused("1 drift", anew, x -> x.drift(1), NOT);
        EDGE.refused("1 undo", anew, LeftQuills::undo, NOT);
        EDGE.refused("1 goodPages", anew, x -> x.goodPages(0, 0), UNKNOWN);
        EDGE.refused("1 life", anew, x -> x.life(0, 0), UNKNOWN);
        EDGE.refused("1 toWhom(0)", anew, x -> x.toWhom(0), UNKNOWN);
        EDGE.refused("1 fastest", anew, x -> x.fastest(0, 1, NONE), UNKNOWN);
        EDGE.refused("1 byTurns", anew, x -> x.byTurns(0, 0), UNKNOWN);
        EDGE.refused("1 geese", anew, x -> x.geese(0, 0, 1), UNKNOWN);
        EDGE.refused("1 worn", anew, x -> x.worn(0, 1, 0), UNKNOWN);
        EDGE.refused("1 note", anew, x -> x.note(0, 0), UNKNOWN);
        EDGE.refused("1 goBack(0)", anew, x -> x.goBack(0), NOT);
        EDGE.refused("1 goBack(1)", anew, x -> x.goBack(1), NOT);
        EDGE.onlyAnswers("1 office", anew, LeftQuills::office, 0);
        EDGE.onlyAnswers("1 fault", anew, LeftQuills::fault, NONE);
        EDGE.onlyAnswers("1 toWhom(NONE)", anew, x -> x.toWhom(NONE), 0);
        EDGE.onlyAnswers("1 dearer", anew, LeftQuills::dearer, 100000);
        EDGE.onlyAnswers("1 crooked", anew, x -> x.crooked(60, 0), 1000000000);
        EDGE.onlyAnswers("1 whose", anew, LeftQuills::whose, 0);
        EDGE.onlyAnswers("1 lookAt", anew, LeftQuills::lookAt, NONE);
        EDGE.onlyAnswers("1 judge", anew, LeftQuills::judge, NONE);
        EDGE.onlyAnswers("1 tear", anew, LeftQuills::tear, 0);
        EDGE.onlyAnswers("1 seed", anew, x -> x.seed(0), 0);
    }

    private static void promise2LettersFrom0To255() {
        EDGE.bounds("2 letter", LeftQuills::new, LeftQuills::feed, 0, 255);
        EDGE.bounds("2 letter, in use", Edge::busy, LeftQuills::feed, 0, 255);
        DUE.is("2 letter 0", new LeftQuills().feed(0), 1);
        DUE.is("2 letter 255", new LeftQuills().feed(255), 1);
    }

    private static LeftQuills withLetters(int n) {
        LeftQuills x = new LeftQuills();
        Due.feed(x, Edge.TEXT + blanks(n - Edge.TEXT.length()));
        return x;
    }

    private static void promise2FullAt220() {
        DUE.is("2 the 219th", withLetters(218).feed(' '), 219);
        DUE.is("2 the 220th", withLetters(219).feed(' '), 220);
        EDGE.refused("2 the 221st", () -> withLetters(220), x -> x.feed('x'), FULL);
        EDGE.refused("2 the 221st, letter 0", () -> withLetters(220), x -> x.feed(0), FULL);
        LeftQuills x = withLetters(220);
        x.feed('x');
        DUE.is("2 the text has no x behind it", x.office(), 2);
    }

    private static void promise2OutsideAheadOfFull() {
        for (int letter : new int[] {Edge.LOWEST, -1, 256, Edge.HIGHEST}) {
            EDGE.refused("2 outside ahead of full, " + letter, () -> withLetters(220), x -> x.feed(letter), OUTSIDE);
        }
    }

    private static void promise2TakesAgainBehindOffice() {
        LeftQuills x = withLetters(220);
        x.office();
        DUE.is("2 the first again", x.feed('x'), 1);
        LeftQuills y = withLetters(219);
        y.feed('x');
        DUE.is("2 a fault in the text", y.office(), -11);
        DUE.is("2 the first again, behind a fault", y.feed('o'), 1);
        DUE.is("2 letters that went are not read again", y.office(), -11);
        DUE.is("2 the end is at the new length", y.fault(), 1);
    }

    /** Every number of one to three figures between the two halves of a text. */
    private static void number(String what, String before, String behind, int least, int most, ToIntFunction<LeftQuills> shown) {
        for (int v = 0; v <= 999; v++) {
            LeftQuills x = new LeftQuills();
            int answer = Due.office(x, before + v + behind);
            boolean isWithin = v >= least && v <= most;
            DUE.is("3 " + what + " " + v, answer < 0 ? answer : 0, isWithin ? 0 : -12);
            DUE.is("4 " + what + " " + v + ", fault", x.fault(), isWithin ? NONE : before.length());
            if (isWithin) {
                DUE.is("3 " + what + " is told", shown.applyAsInt(x), v);
            }
        }
        for (String tooLong : List.of("1000", "9999", "000" + least, "000" + most, "2147483648", "4294967297", "18446744073709551617")) {
            faulty("3 " + what, before + tooLong + behind, 2, before.length());
        }
    }

    private static void promise3NumbersOfTheBlade() {
        number("B", "o", " 1;", 1, 20, x -> x.told(0));
        number("M", "o1 ", ";", 1, 20, x -> x.told(1));
    }

    private static void promise3NumbersOfAQuill() {
        number("WING", "o1 1;q", " 1 0 0 1;", 0, 1, x -> x.quill(0, 0));
        number("PLACE", "o1 1;q0 ", " 0 0 1;", 1, 5, x -> x.quill(0, 1));
        number("COOKED", "o1 1;q0 1 ", " 0 1;", 0, 9, x -> x.quill(0, 2));
        number("LENGTH", "o1 1;q0 1 0 ", " 1;", 0, 99, x -> x.quill(0, 3));
        number("NIB of a quill", "o1 1;q0 1 0 0 ", ";", 1, 9, x -> x.quill(0, 4));
    }

    private static void promise3NumbersOfAHand() {
        number("S", "o1 1;h", " 1 1;", 0, 1, x -> x.hand(0, 0));
        number("PRESSES", "o1 1;h0 ", " 1;", 1, 9, x -> x.hand(0, 1));
        number("NIB of a hand", "o1 1;h0 1 ", ";", 1, 9, x -> x.hand(0, 2));
    }

    private static void promise3FiguresOneToThree() {
        good("3", "o1 1;", 0);
        good("3", "o01 20;", 0);
        good("3", "o001 020;", 0);
        faulty("3", "o0001 1;", 2, 1);
        faulty("3", "o1 0001;", 2, 3);
        faulty("3", "o1 0020", 2, 3);
        good("3", "o1 1;q000 005 009 099 009;", 1);
        faulty("3", "o1 1;q0000 5 9 99 9;", 2, 6);
        faulty("3", "o1 1;q0 5 9 0099 9;", 2, 12);
        faulty("3", "o" + "0".repeat(218) + "1", 2, 1);
        faulty("3", "o" + "9".repeat(219), 2, 1);
    }

    /** A blank more at every place of a text leaves its office, but for one between two figures. */
    private static void promise3BlanksAnywhereButWithinNumbers() {
        String text = "o12 13;q1 2 3 45 6;h1 7 8;";
        for (int at = 0; at <= text.length(); at++) {
            boolean isWithin = at > 0 && at < text.length() && Character.isDigit(text.charAt(at - 1)) && Character.isDigit(text.charAt(at));
            LeftQuills x = new LeftQuills();
            int answer = Due.office(x, text.substring(0, at) + blanks(3) + text.substring(at));
            DUE.is("3 blanks ahead of letter " + at, answer == 1 ? 1 : 0, isWithin ? 0 : 1);
        }
        faulty("3 a blank within M", "o1 2 3;", 1, 5);
        faulty("3 a blank within LENGTH", "o1 1;q0 1 0 4 5 6;", 1, 16);
        good("3 blanks at the ends", "   o1 1;   ", 0);
        faulty("3 a tab is no blank", "o1 1;\t", 1, 5);
        faulty("3 a line's end is no blank", "o1 1;\n", 1, 5);
        faulty("3 letter 160 is no blank", "o1 1;" + (char) 160, 1, 5);
    }

    private static void promise3NumbersSideBySideNeedABlank() {
        faulty("3 o", "o11;", 1, 3);
        faulty("3 o", "o201;", 2, 1);
        faulty("3 q", "o1 1;q01 2 3 4;", 1, 14);
        faulty("3 h", "o1 1;h01 1;", 1, 10);
        faulty("3 h", "o1 1;h011;", 2, 6);
        good("3 none needed behind a word or ahead of ';'", "o1 1;q0 1 0 0 1;h0 1 1;", 1);
    }

    private static void promise3BladeFirst() {
        for (int letter = 0; letter <= 255; letter++) {
            if (letter == ' ') {
                good("3 first letter 32", " ", 0);
            } else {
                faulty("3 first letter " + letter, "" + (char) letter, 1, letter == 'o' ? 1 : 0);
            }
        }
        faulty("3 q first", "q0 1 0 0 1;o1 1;", 1, 0);
        faulty("3 h first", "  h0 1 1;o1 1;", 1, 2);
        faulty("3 O is no word", "O1 1;", 1, 0);
    }

    private static void promise3BladeOnce() {
        faulty("3 o again", "o1 1;o1 1;", 3, 5);
        faulty("3 o again", "o1 1;o", 3, 5);
        faulty("3 o again", "o1 1;q0 1 0 0 1;  o20 20;", 3, 18);
        faulty("3 o again", EIGHT_QUILLS + "o", 3, EIGHT_QUILLS.length());
    }

    private static void promise3EightQuills() {
        good("3 eighth q", EIGHT_QUILLS, 8);
        faulty("3 ninth q", EIGHT_QUILLS + "q0 1 0 0 1;", 3, EIGHT_QUILLS.length());
        faulty("3 ninth q", EIGHT_QUILLS + "  q", 3, EIGHT_QUILLS.length() + 2);
        faulty("3 ninth q behind a hand", EIGHT_QUILLS + "h0 1 1;q", 3, EIGHT_QUILLS.length() + 7);
        good("3 a hand behind eight q", EIGHT_QUILLS + "h0 1 1;", 8);
    }

    private static void promise3FourHands() {
        good("3 fourth h", FOUR_HANDS, 0);
        faulty("3 fifth h", FOUR_HANDS + "h0 1 1;", 3, FOUR_HANDS.length());
        faulty("3 fifth h", FOUR_HANDS + " h", 3, FOUR_HANDS.length() + 1);
        faulty("3 fifth h behind a quill", FOUR_HANDS + "q0 1 0 0 1;h", 3, FOUR_HANDS.length() + 11);
        good("3 a quill behind four h", FOUR_HANDS + "q0 1 0 0 1;", 1);
    }

    private static void promise3TheGreatestOffice() {
        String text = "o020 020;" + "q001 005 09 99 9;".repeat(8) + "h001 09 9;".repeat(4);
        LeftQuills x = new LeftQuills();
        DUE.is("3 eight quills", Due.office(x, text + blanks(220 - text.length())), 8);
        DUE.is("3 four hands", x.told(3), 4);
        DUE.is("3 the last quill", x.quill(7, 3), 99);
        DUE.is("3 the last hand", x.hand(3, 1), 9);
    }

    private static void promise3LettersThatCannotStand() {
        for (int letter = 0; letter <= 255; letter++) {
            String sign = "" + (char) letter;
            boolean isFigure = letter >= '0' && letter <= '9';
            boolean isBlank = letter == ' ';
            if (letter != 'o' && !isBlank) {
                faulty("3 a clause starts with " + letter, "o1 1;" + sign, 1, letter == 'q' || letter == 'h' ? 6 : 5);
            }
            if (letter != '0') {
                faulty("3 a number starts with " + letter, "o" + sign, 1, isFigure || isBlank ? 2 : 1);
            }
            if (letter != ';') {
                faulty("3 for the ';' " + letter, "o1 1 " + sign, 1, isBlank ? 6 : 5);
                faulty("3 right behind the last number " + letter, "o1 1" + sign, 1, isFigure || isBlank ? 5 : 4);
            }
            if (!isFigure && !isBlank) {
                faulty("3 between two numbers " + letter, "o1" + sign + "1;", 1, 2);
            }
        }
    }

    /** Each beginning of a text is told at its end, if it does not end behind a clause. */
    private static void promise3TheEndIsAtTheLength() {
        String text = "o12 13;q1 2 3 45 6; h1 7 8;";
        for (int length = 1; length <= text.length(); length++) {
            String part = text.substring(0, length);
            if (part.trim().endsWith(";")) {
                good("3 ends behind a clause", part, length > 18 ? 1 : 0);
            } else {
                faulty("3 ends at " + length, part, 1, length);
                faulty("3 ends behind blanks at " + (length + 2), part + "  ", 1, length + 2);
            }
        }
    }

    private static void promise3TheFirstLetterWithAFault() {
        faulty("3 2 ahead of a later 1", "o21 x", 2, 1);
        faulty("3 2 ahead of a later 1", "o1000x", 2, 1);
        faulty("3 2 ahead of the end", "o1 21", 2, 3);
        faulty("3 3 ahead of a later 2", "o1 1;o0 0;", 3, 5);
        faulty("3 3 ahead of a later 1", EIGHT_QUILLS + "qx", 3, EIGHT_QUILLS.length());
        faulty("3 3 ahead of a later 2", FOUR_HANDS + "h9999", 3, FOUR_HANDS.length());
        faulty("3 1 ahead of a later 2", "x9999", 1, 0);
        faulty("3 1 ahead of a later 3", "o1 1;xo", 1, 5);
        faulty("3 the first of two 2", "o0 0;", 2, 1);
    }

    private static void promise3OfOneLetterTheLeastFault() {
        faulty("3 1 and 3: o for a number", "oo", 1, 1);
        faulty("3 1 and 3: o for the second number", "o1 o1;", 1, 3);
        faulty("3 1 and 3: o for ';'", "o1 1 o1 1;", 1, 5);
        faulty("3 1 and 3: a ninth q for a number", EIGHT_QUILLS + "hq", 1, EIGHT_QUILLS.length() + 1);
        faulty("3 1 and 3: a fifth h for ';'", FOUR_HANDS + "q0 1 0 0 1 h", 1, FOUR_HANDS.length() + 11);
        faulty("3 1 and 2: four figures first", "9999", 1, 0);
        faulty("3 1 and 2: four figures for ';'", "o1 1 9999;", 1, 5);
        faulty("3 1 and 2: four figures for a word", "o1 1;9999", 1, 5);
        faulty("3 1 and 2: four figures behind a hand", "o1 1;h0 1 1 9999;", 1, 12);
    }

    private static List<String> butForTheFault(LeftQuills x) {
        List<String> lines = Shown.of(x);
        return lines.subList(1, lines.size());
    }

    private static void promise3AFaultLeavesAllElse() {
        for (String text : List.of("x", "o1 1;q0 1 0 0 1;h", "o1 1;q0 1 0 0 10;", "o0 1;", EIGHT_QUILLS + "q", FOUR_HANDS + "h")) {
            LeftQuills x = Edge.inUse();
            DUE.is("3 " + text + " has a fault", Due.office(x, text) <= -11 ? 1 : 0, 1);
            DUE.same("3 behind the fault of " + text, butForTheFault(x), butForTheFault(Edge.inUse()));
            DUE.same("3 without an office, the fault of " + text, butForTheFault(faultyAnew(text)), butForTheFault(new LeftQuills()));
        }
    }

    private static LeftQuills faultyAnew(String text) {
        return Due.with(text);
    }

    private static LeftQuills anewWithSeed(int seed) {
        LeftQuills x = new LeftQuills();
        x.seed(seed);
        return x;
    }

    private static void promise3AnEmptyText() {
        for (int n : new int[] {0, 1, 220}) {
            LeftQuills x = Edge.inUse();
            DUE.is("3 no quills by " + n + " blanks", Due.office(x, blanks(n)), 0);
            DUE.same("3 no office by " + n + " blanks", Shown.of(x), Shown.of(anewWithSeed(6)));
        }
        LeftQuills x = Due.with("");
        DUE.is("3 no office, so not whetted", x.whet(), NOT);
        DUE.is("3 an office without quills", Due.office(x, "o1 1;"), 0);
        DUE.is("3 it is whetted", x.whet(), 0);
        DUE.is("3 an empty text again", x.office(), 0);
        DUE.is("3 no office again", x.whet(), NOT);
    }

    /** An office behind another is as one behind nothing, but for the seed. */
    private static void promise3AnOfficeStartsAnew() {
        String greatest = EIGHT_QUILLS + FOUR_HANDS.substring(5);
        for (String text : List.of("o1 1;", "o3 4;q1 5 9 99 9;", Edge.TEXT, greatest)) {
            LeftQuills x = Edge.inUse();
            LeftQuills anew = anewWithSeed(6);
            DUE.is("3 how many quills", Due.office(x, text), Due.office(anew, text));
            DUE.same("3 " + text + " behind another", Shown.of(x), Shown.of(anew));
        }
    }

    private static void promise4NoneTillAFault() {
        LeftQuills x = new LeftQuills();
        DUE.is("4 none at first", x.fault(), NONE);
        Due.feed(x, "xyz");
        DUE.is("4 none till office()", x.fault(), NONE);
        x.office();
        DUE.is("4 letter 0", x.fault(), 0);
        DUE.is("4 asked twice", x.fault(), 0);
    }

    private static void promise4TheLatestOffice() {
        LeftQuills x = Edge.inUse();
        DUE.is("4 none behind a good one", x.fault(), NONE);
        Due.office(x, "o1 1;x");
        DUE.is("4 letter 5", x.fault(), 5);
        Due.feed(x, Edge.TEXT);
        x.undo();
        x.goBack(0);
        x.whet();
        x.tear();
        DUE.is("4 letter 5 still", x.fault(), 5);
        x.office();
        DUE.is("4 none by the next", x.fault(), NONE);
        Due.office(x, "o1 1;q");
        DUE.is("4 letter 6", x.fault(), 6);
        Due.office(x, "o0");
        DUE.is("4 another fault", x.fault(), 1);
        x.office();
        DUE.is("4 none by an empty text", x.fault(), NONE);
    }

    private static void promise4FirstAndLastLetter() {
        faulty("4 first letter", "x" + blanks(219), 1, 0);
        faulty("4 last letter", "o1 1;" + blanks(214) + "x", 1, 219);
        faulty("4 last letter, o again", "o1 1;" + blanks(214) + "o", 3, 219);
        faulty("4 last letter, a number", "o1" + blanks(217) + "0", 2, 219);
        faulty("4 the end of a full text", "o1 1;" + blanks(214) + "q", 1, 220);
        faulty("4 the end of a full text", "o1" + blanks(217) + "1", 1, 220);
        good("4 a full text", "o1 1" + blanks(215) + ";", 0);
    }

    private static void promise5WhatFrom0To12() {
        EDGE.bounds("5 what", Edge::busy, LeftQuills::told, 0, 12);
        EDGE.bounds("5 what, no office", LeftQuills::new, LeftQuills::told, 0, 12);
        int[] due = {2, 3, 2, 2, 6, 13, 2, 5, 3, 0, 2, 2, 2};
        for (int what = 0; what <= 12; what++) {
            int at = what;
            EDGE.onlyAnswers("5 told " + what, Edge::busy, x -> x.told(at), due[what]);
        }
    }

    private static void promise5SoftAbove50() {
        LeftQuills x = Due.with("o1 1;" + "q0 2 9 0 5;".repeat(8) + "h0 1 5;");
        for (int q = 0; q < 8; q++) {
            x.write(q, 0, 40);
            x.write(q, 0, 10);
        }
        DUE.is("5 none is soft at 50", x.told(9), 0);
        int set = 0;
        for (int q = 7; q >= 0; q--) {
            x.write(q, 0, 1);
            set |= 1 << q;
            DUE.is("5 soft at 51", x.told(9), set);
        }
        DUE.is("5 all eight", x.told(9), 255);
    }

    private static void promise6WhatFrom0To6() {
        EDGE.bounds("6 what", Edge::busy, (x, v) -> x.quill(0, v), 0, 6);
        EDGE.bounds("6 what of the last", Edge::busy, (x, v) -> x.quill(1, v), 0, 6);
    }

    private static void promise6QuillsThereAre() {
        EDGE.known("6 quill of two", Edge::busy, (x, v) -> x.quill(v, 6), 2);
        EDGE.known("6 quill of eight", () -> Due.with(EIGHT_QUILLS), (x, v) -> x.quill(v, 0), 8);
        EDGE.refused("6 none", () -> Due.with(FOUR_HANDS), x -> x.quill(0, 0), UNKNOWN);
        LeftQuills x = Due.with(EIGHT_QUILLS);
        Due.office(x, Edge.TEXT);
        DUE.is("6 gone with its office", x.quill(2, 0), UNKNOWN);
    }

    private static void promise6UnknownAheadOfOutside() {
        EDGE.refused("6 both", Edge::busy, x -> x.quill(2, 7), UNKNOWN);
        EDGE.refused("6 both", Edge::busy, x -> x.quill(-1, -1), UNKNOWN);
        EDGE.refused("6 both", Edge::busy, x -> x.quill(Edge.LOWEST, Edge.HIGHEST), UNKNOWN);
        EDGE.refused("6 both", Edge::busy, x -> x.quill(Edge.HIGHEST, Edge.LOWEST), UNKNOWN);
    }

    private static void promise7WhatFrom0To4() {
        EDGE.bounds("7 what", Edge::busy, (x, v) -> x.hand(0, v), 0, 4);
        EDGE.bounds("7 what of the last", Edge::busy, (x, v) -> x.hand(1, v), 0, 4);
    }

    private static void promise7HandsThereAre() {
        EDGE.known("7 hand of two", Edge::busy, (x, v) -> x.hand(v, 4), 2);
        EDGE.known("7 hand of four", () -> Due.with(FOUR_HANDS), (x, v) -> x.hand(v, 0), 4);
        EDGE.refused("7 none", () -> Due.with(EIGHT_QUILLS), x -> x.hand(0, 0), UNKNOWN);
        LeftQuills x = Due.with(FOUR_HANDS);
        Due.office(x, Edge.TEXT);
        DUE.is("7 gone with its office", x.hand(2, 0), UNKNOWN);
    }

    private static void promise7UnknownAheadOfOutside() {
        EDGE.refused("7 both", Edge::busy, x -> x.hand(2, 5), UNKNOWN);
        EDGE.refused("7 both", Edge::busy, x -> x.hand(-1, -1), UNKNOWN);
        EDGE.refused("7 both", Edge::busy, x -> x.hand(Edge.LOWEST, Edge.HIGHEST), UNKNOWN);
        EDGE.refused("7 both", Edge::busy, x -> x.hand(Edge.HIGHEST, Edge.LOWEST), UNKNOWN);
    }
}
