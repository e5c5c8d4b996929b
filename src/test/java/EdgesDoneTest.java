import java.math.BigInteger;
import java.util.function.ToIntFunction;

/** Promises 8 to 14 at their bounds: each sentence of the document that names one has a test of its own here. */
public final class EdgesDoneTest {
    private static final int UNKNOWN = Edge.UNKNOWN, OUTSIDE = Edge.OUTSIDE, NOT = Edge.NOT, FULL = Edge.FULL;
    private static final int LOWEST = Edge.LOWEST, HIGHEST = Edge.HIGHEST;
    /** A page makes each quill 1 softer, so every softness can be had; quills 1 to 3 are there to be cut. */
    private static final String BY_ONES = "o20 3;q0 2 9 99 5;q0 2 9 0 1;q0 2 9 0 1;q0 2 9 0 1;h0 1 5;";
    private static final Due DUE = new Due();
    private static final Edge EDGE = new Edge(DUE);

    public static void main(String[] args) {
        promise8PagesFrom1To40();
        promise8QuillsAndHandsThereAre();
        promise8UnknownOutsideFull();
        promise8FullAbove90000();
        promise8OneSofterAtLeast();
        promise8SoftnessAtMost99();
        promise8GoodTill50();
        promise8NibOneBeside();
        promise9HoursFrom1To9();
        promise9QuillsThereAre();
        promise9UnknownAheadOfOutside();
        promise9NotBelowAThird();
        promise9NeverFull();
        promise10QuillsThereAre();
        promise10LengthNotBelow0();
        promise10LengthNotBelow0ByABluntBlade();
        promise10BluntBehindBCuts();
        promise10NibAtMost9();
        promise10FullAbove90000();
        promise10UnknownNotFull();
        promise11QuillsThereAre();
        promise11NibAtMost9();
        promise11NeverFull();
        promise12NotWithoutAnOffice();
        promise12FullAbove90000();
        promise12NoCutsSince();
        promise13TimesFrom1To60();
        promise13NotWithoutAnOffice();
        promise13OutsideNotFull();
        promise13FullAbove90000();
        promise13NothingWithoutQuillsOrHands();
        promise13MendedIfItCanBe();
        promise13TheSeedIsLeftOverBy2ToThe31();
        promise13OneQuillOneHand();
        promise14NotIfNone();
        promise14TwentyAtMost();
        promise14TheOldestAreLost();
        promise14RefusedOnesAreNotKept();
        promise14EachKindIsUndone();
        promise14TheSeedStays();
        promise14OtherCallsAreNotUndone();
        DUE.end();
    }

    private static LeftQuills over() {
        return Edge.overTime(Edge.TEXT);
    }

    private static LeftQuills at90000() {
        return Edge.atTime(Edge.TEXT);
    }

    /** One above: 5 for the blade, 2 for each page. */
    private static LeftQuills at90001() {
        LeftQuills x = Due.with(Edge.TEXT);
        x.whet();
        for (int i = 0; i < 1124; i++) {
            x.write(0, 0, 40);
        }
        x.write(0, 0, 38);
        return x;
    }

    /** Quill 0 so soft, 0 to 99. */
    private static LeftQuills soft(String text, int softness) {
        LeftQuills x = Due.with(text);
        int left = softness;
        while (left > 0) {
            x.write(0, 0, Math.min(40, left));
            left -= Math.min(40, left);
        }
        return x;
    }

    /** The blade has cut so often, 0 to 24, by quills 1 to 3 made broader. */
    private static LeftQuills cut(String text, int cuts) {
        LeftQuills x = Due.with(text);
        for (int i = 0; i < cuts; i++) {
            x.broaden(1 + i / 8);
        }
        return x;
    }

    private static String fourQuills(int b, int length, int nib) {
        return "o" + b + " 3;q0 2 9 " + length + " " + nib + ";q0 2 9 0 1;q0 2 9 0 1;q0 2 9 0 1;h0 1 5;";
    }

    private static void promise8PagesFrom1To40() {
        EDGE.bounds("8 pages", Edge::busy, (x, v) -> x.write(0, 0, v), 1, 40);
        for (int n = 1; n <= 40; n++) {
            LeftQuills x = Due.with(BY_ONES);
            DUE.is("8 good ones of " + n, x.write(0, 0, n), n);
            DUE.is("8 pages by " + n, x.hand(0, 3), n);
            DUE.is("8 minutes by " + n, x.told(5), 2 * n);
        }
    }

    private static void promise8QuillsAndHandsThereAre() {
        EDGE.known("8 quill", Edge::busy, (x, v) -> x.write(v, 0, 1), 2);
        EDGE.known("8 hand", Edge::busy, (x, v) -> x.write(0, v, 1), 2);
        EDGE.refused("8 no hands", () -> Due.with("o1 1;q0 1 0 0 1;"), x -> x.write(0, 0, 1), UNKNOWN);
        EDGE.refused("8 no quills", () -> Due.with("o1 1;h0 1 1;"), x -> x.write(0, 0, 1), UNKNOWN);
    }

    private static void promise8UnknownOutsideFull() {
        for (int n : new int[] {LOWEST, 0, 41, HIGHEST}) {
            EDGE.refused("8 quill, pages", Edge::busy, x -> x.write(2, 0, n), UNKNOWN);
            EDGE.refused("8 hand, pages", Edge::busy, x -> x.write(0, -1, n), UNKNOWN);
            EDGE.refused("8 quill, hand, pages, full", EdgesDoneTest::over, x -> x.write(-1, 2, n), UNKNOWN);
            EDGE.refused("8 pages, full", EdgesDoneTest::over, x -> x.write(0, 0, n), OUTSIDE);
        }
        EDGE.refused("8 quill, full", EdgesDoneTest::over, x -> x.write(2, 0, 1), UNKNOWN);
        EDGE.refused("8 hand, full", EdgesDoneTest::over, x -> x.write(0, 2, 1), UNKNOWN);
    }

    private static void promise8FullAbove90000() {
        DUE.is("8 minutes", at90000().told(5), 90000);
        DUE.is("8 one minute more", at90001().told(5), 90001);
        DUE.is("8 90000 are not above", at90000().write(1, 1, 7), 7);
        LeftQuills x = at90000();
        DUE.is("8 all of it is written", x.write(1, 1, 40), 7);
        DUE.is("8 minutes go above", x.told(5), 90080);
        EDGE.refused("8 full by one page above", EdgesDoneTest::over, y -> y.write(1, 1, 1), FULL);
        EDGE.refused("8 full at 90001", EdgesDoneTest::at90001, y -> y.write(1, 1, 1), FULL);
        EDGE.refused("8 full for 40", EdgesDoneTest::over, y -> y.write(0, 0, 40), FULL);
    }

    /** All that a quill and a hand can be. */
    private static void promise8OneSofterAtLeast() {
        int[] ofPlace = {0, 1, 3, 3, 2, 1};
        for (int place = 1; place <= 5; place++) {
            for (int cooked = 0; cooked <= 9; cooked++) {
                for (int presses = 1; presses <= 9; presses++) {
                    int softer = 12 * presses / (2 + cooked + ofPlace[place]);
                    softer = softer < 1 ? 1 : softer;
                    LeftQuills x = Due.with("o1 1;q0 " + place + " " + cooked + " 0 1;q1 " + place + " " + cooked + " 0 1;h0 " + presses + " 1;");
                    x.write(0, 0, 1);
                    x.write(1, 0, 1);
                    DUE.is("8 softer", x.quill(0, 6), softer);
                    DUE.is("8 softer, 4 more", x.quill(1, 6), softer + 4);
                }
            }
        }
    }

    private static void promise8SoftnessAtMost99() {
        for (int softness = 90; softness <= 99; softness++) {
            LeftQuills x = soft(BY_ONES, softness);
            DUE.is("8 so soft", x.quill(0, 6), softness);
            x.write(0, 0, 1);
            DUE.is("8 1 softer than " + softness, x.quill(0, 6), Math.min(99, softness + 1));
            LeftQuills y = soft("o1 1;q0 2 9 0 5;h0 1 5;h1 9 5;", softness);
            y.write(0, 1, 1);
            DUE.is("8 108 / 14 and 4 softer than " + softness, y.quill(0, 6), Math.min(99, softness + 11));
        }
        LeftQuills x = Due.with("o1 1;q1 1 0 0 5;h0 9 5;");
        x.write(0, 0, 2);
        DUE.is("8 40 each", x.quill(0, 6), 80);
        x.write(0, 0, 40);
        DUE.is("8 99 at most", x.quill(0, 6), 99);
    }

    private static void promise8GoodTill50() {
        DUE.is("8 behind it 49", soft(BY_ONES, 48).write(0, 0, 1), 1);
        DUE.is("8 behind it 50", soft(BY_ONES, 49).write(0, 0, 1), 1);
        DUE.is("8 behind it 51", soft(BY_ONES, 50).write(0, 0, 1), 0);
        DUE.is("8 behind it 99", soft(BY_ONES, 99).write(0, 0, 1), 0);
        LeftQuills x = soft(BY_ONES, 49);
        DUE.is("8 the first of two", x.write(0, 0, 2), 1);
        DUE.is("8 good ones", x.hand(0, 4), 50);
        DUE.is("8 pages", x.hand(0, 3), 51);
    }

    private static void promise8NibOneBeside() {
        for (int nib = 1; nib <= 9; nib++) {
            for (int wants = 1; wants <= 9; wants++) {
                LeftQuills x = Due.with("o1 1;q0 2 9 0 " + nib + ";h0 1 " + wants + ";");
                boolean isGood = nib == wants || nib == wants + 1 || nib == wants - 1;
                DUE.is("8 nib " + nib + " for " + wants, x.write(0, 0, 1), isGood ? 1 : 0);
                DUE.is("8 good pages, nib " + nib + " for " + wants, x.told(8), isGood ? 1 : 0);
                DUE.is("8 softer all the same", x.quill(0, 6), 1);
            }
        }
    }

    private static void promise9HoursFrom1To9() {
        EDGE.bounds("9 hours", Edge::busy, (x, v) -> x.dry(0, v), 1, 9);
    }

    private static void promise9QuillsThereAre() {
        EDGE.known("9 quill", Edge::busy, (x, v) -> x.dry(v, 1), 2);
    }

    private static void promise9UnknownAheadOfOutside() {
        for (int hours : new int[] {LOWEST, 0, 10, HIGHEST}) {
            EDGE.refused("9 both", Edge::busy, x -> x.dry(2, hours), UNKNOWN);
            EDGE.refused("9 both", Edge::busy, x -> x.dry(-1, hours), UNKNOWN);
        }
    }

    /** Every softness, all hours. */
    private static void promise9NotBelowAThird() {
        for (int softness = 0; softness <= 99; softness++) {
            for (int hours = 1; hours <= 9; hours++) {
                int third = softness / 3;
                int less = softness - 8 * hours;
                LeftQuills x = soft(BY_ONES, softness);
                DUE.is("9 " + softness + " dried for " + hours, x.dry(0, hours), less < third ? third : less);
                DUE.is("9 it stays so", x.quill(0, 6), less < third ? third : less);
            }
        }
        DUE.is("9 12 is a third and 8", soft(BY_ONES, 12).dry(0, 1), 4);
        DUE.is("9 11 is less", soft(BY_ONES, 11).dry(0, 1), 3);
        DUE.is("9 13 is more", soft(BY_ONES, 13).dry(0, 1), 5);
        DUE.is("9 2 has no third", soft(BY_ONES, 2).dry(0, 1), 0);
        DUE.is("9 0", soft(BY_ONES, 0).dry(0, 9), 0);
        DUE.is("9 99 for 9 hours", soft(BY_ONES, 99).dry(0, 9), 33);
    }

    private static void promise9NeverFull() {
        DUE.is("9 above 90000", over().dry(0, 1), 91);
        LeftQuills x = Due.with(BY_ONES);
        x.dry(0, 9);
        DUE.is("9 at 0 it is done too", x.told(12), 1);
    }

    private static void promise10QuillsThereAre() {
        EDGE.known("10 quill", () -> Due.with(Edge.TEXT), LeftQuills::mend, 2);
        EDGE.known("10 quill of four, in use", () -> cut(fourQuills(20, 5, 5).replace("9 0 1", "9 5 1"), 3), LeftQuills::mend, 4);
    }

    private static void promise10LengthNotBelow0() {
        for (int length = 0; length <= 99; length++) {
            String text = fourQuills(2, length, 5);
            for (int cuts = 0; cuts <= 1; cuts++) {
                int sharp = cuts;
                if (length < 5) {
                    EDGE.refused("10 too short, " + length, () -> cut(text, sharp), x -> x.mend(0), NOT);
                } else {
                    DUE.is("10 mended from " + length, cut(text, cuts).mend(0), length - 5);
                }
            }
        }
    }

    private static void promise10LengthNotBelow0ByABluntBlade() {
        for (int length = 0; length <= 99; length++) {
            String text = fourQuills(2, length, 5);
            if (length < 9) {
                EDGE.refused("10 too short for a blunt blade, " + length, () -> cut(text, 2), x -> x.mend(0), NOT);
            } else {
                DUE.is("10 mended by a blunt blade from " + length, cut(text, 2).mend(0), length - 9);
            }
        }
    }

    private static void promise10BluntBehindBCuts() {
        for (int b = 1; b <= 20; b++) {
            for (int cuts = 0; cuts <= 24; cuts++) {
                LeftQuills x = cut(fourQuills(b, 50, 5), cuts);
                boolean isBlunt = cuts >= b;
                DUE.is("10 length by " + cuts + " of " + b, x.mend(0), isBlunt ? 41 : 45);
                DUE.is("10 nib by " + cuts + " of " + b, x.quill(0, 4), isBlunt ? 6 : 5);
                DUE.is("10 cuts", x.told(6), cuts + 1);
                DUE.is("10 minutes", x.told(5), 3);
            }
        }
    }

    private static void promise10NibAtMost9() {
        for (int nib = 1; nib <= 9; nib++) {
            LeftQuills x = cut(fourQuills(1, 50, nib), 1);
            x.mend(0);
            DUE.is("10 broader than " + nib, x.quill(0, 4), Math.min(9, nib + 1));
            x.mend(0);
            DUE.is("10 broader again than " + nib, x.quill(0, 4), Math.min(9, nib + 2));
        }
    }

    private static void promise10FullAbove90000() {
        DUE.is("10 90000 are not above", at90000().mend(0), 15);
        EDGE.refused("10 full at 90001", EdgesDoneTest::at90001, x -> x.mend(0), FULL);
        EDGE.refused("10 full", EdgesDoneTest::over, x -> x.mend(0), FULL);
        EDGE.refused("10 full", EdgesDoneTest::over, x -> x.mend(1), FULL);
    }

    private static void promise10UnknownNotFull() {
        String tooShort = "o1 1;q0 2 9 4 5;h0 1 5;";
        EDGE.refused("10 not, full", () -> Edge.overTime(tooShort), x -> x.mend(0), NOT);
        for (int q : new int[] {LOWEST, -1, 1, HIGHEST}) {
            EDGE.refused("10 unknown, full", () -> Edge.overTime(tooShort), x -> x.mend(q), UNKNOWN);
        }
    }

    private static void promise11QuillsThereAre() {
        EDGE.known("11 quill", Edge::busy, LeftQuills::broaden, 2);
        EDGE.refused("11 no quills", () -> Due.with("o1 1;h0 1 9;"), x -> x.broaden(0), UNKNOWN);
    }

    private static void promise11NibAtMost9() {
        for (int nib = 1; nib <= 8; nib++) {
            LeftQuills x = Due.with(fourQuills(1, 0, nib));
            DUE.is("11 broader than " + nib, x.broaden(0), nib + 1);
            DUE.is("11 one cut more", x.told(6), 1);
        }
        EDGE.refused("11 not above 9", () -> Due.with(fourQuills(1, 0, 9)), x -> x.broaden(0), NOT);
        EDGE.refused("11 not above 9, made so", () -> cut(fourQuills(1, 0, 5), 8), x -> x.broaden(1), NOT);
    }

    private static void promise11NeverFull() {
        DUE.is("11 above 90000", over().broaden(0), 5);
    }

    private static void promise12NotWithoutAnOffice() {
        EDGE.refused("12 no office", LeftQuills::new, LeftQuills::whet, NOT);
        EDGE.refused("12 an empty text behind an office", EdgesDoneTest::emptied, LeftQuills::whet, NOT);
        EDGE.refused("12 a fault alone", () -> Due.with("o1 1"), LeftQuills::whet, NOT);
        DUE.is("12 an office without quills, hands", Due.with("o1 1;").whet(), 0);
    }

    private static LeftQuills emptied() {
        LeftQuills x = Edge.inUse();
        x.office();
        return x;
    }

    private static void promise12FullAbove90000() {
        DUE.is("12 90000 are not above", at90000().whet(), 0);
        EDGE.refused("12 full at 90001", EdgesDoneTest::at90001, LeftQuills::whet, FULL);
        EDGE.refused("12 full", EdgesDoneTest::over, LeftQuills::whet, FULL);
    }

    private static void promise12NoCutsSince() {
        for (int cuts = 0; cuts <= 24; cuts++) {
            LeftQuills x = cut(fourQuills(20, 50, 5), cuts);
            DUE.is("12 cuts", x.whet(), cuts);
            DUE.is("12 none since", x.told(6), 0);
            DUE.is("12 none the next time", x.whet(), 0);
            DUE.is("12 5 minutes each", x.told(5), 10);
            DUE.is("12 sharp", x.mend(0), 45);
        }
    }

    private static void promise13TimesFrom1To60() {
        EDGE.bounds("13 times", Edge::busy, LeftQuills::drift, 1, 60);
        for (int n = 1; n <= 60; n++) {
            LeftQuills x = Edge.inUse();
            LeftQuills y = Edge.inUse();
            int minutes = 0;
            for (int i = 0; i < n; i++) {
                minutes = y.drift(1);
            }
            DUE.is("13 " + n + " times", x.drift(n), minutes);
            DUE.is("13 the seed behind " + n, x.seed(0), y.seed(0));
            DUE.is("13 one thing", x.told(12), 3);
        }
    }

    private static void promise13NotWithoutAnOffice() {
        EDGE.refused("13 no office", LeftQuills::new, x -> x.drift(1), NOT);
        EDGE.refused("13 no office", EdgesDoneTest::emptied, x -> x.drift(60), NOT);
    }

    private static void promise13OutsideNotFull() {
        for (int n : new int[] {LOWEST, -1, 0, 61, HIGHEST}) {
            EDGE.refused("13 outside, not", LeftQuills::new, x -> x.drift(n), OUTSIDE);
            EDGE.refused("13 outside, full", EdgesDoneTest::over, x -> x.drift(n), OUTSIDE);
        }
    }

    private static void promise13FullAbove90000() {
        LeftQuills x = at90000();
        DUE.is("13 90000 are not above", x.drift(60) > 90000 ? 1 : 0, 1);
        EDGE.refused("13 full at 90001", EdgesDoneTest::at90001, y -> y.drift(1), FULL);
        EDGE.refused("13 full", EdgesDoneTest::over, y -> y.drift(1), FULL);
        EDGE.refused("13 full", EdgesDoneTest::over, y -> y.drift(60), FULL);
    }

    private static void promise13NothingWithoutQuillsOrHands() {
        for (String text : new String[] {"o1 1;", "o1 1;q0 1 0 99 1;q0 1 0 99 1;", "o1 1;h0 1 1;h0 1 1;"}) {
            LeftQuills x = Due.with(text);
            x.seed(77);
            x.whet();
            DUE.is("13 minutes stay", x.drift(60), 5);
            DUE.is("13 no draw", x.seed(77), 77);
            DUE.is("13 no page", x.told(7), 0);
            DUE.is("13 no cut", x.told(6), 0);
        }
    }

    /** Lengths below 5 and, by a blunt blade, below 9 never change; nothing goes below 0. */
    private static void promise13MendedIfItCanBe() {
        for (int length = 0; length <= 20; length++) {
            LeftQuills x = Due.with("o1 20;q0 2 9 " + length + " 9;h0 1 9;");
            x.drift(60);
            int mends = length < 5 ? 0 : length < 14 ? 1 : 2;
            DUE.is("13 length " + length, x.quill(0, 3), mends == 0 ? length : mends == 1 ? length - 5 : length - 14);
            DUE.is("13 cuts, length " + length, x.told(6), mends);
            DUE.is("13 minutes, length " + length, x.told(5), 20 * mends + 2 * x.told(7));
        }
    }

    private static void promise13TheSeedIsLeftOverBy2ToThe31() {
        for (int first : new int[] {0, 1, 65535, 65536, 1073741823, 1073741824, HIGHEST - 1, HIGHEST}) {
            drawn(first, 7, 3);
            drawn(first, 8, 4);
        }
    }

    /** Also a draw of 1 moves the seed. */
    private static void promise13OneQuillOneHand() {
        for (int first = 0; first < 20; first++) {
            drawn(first, 1, 1);
            drawn(first, 1, 4);
            drawn(first, 8, 1);
        }
    }

    /** One time by draws from the seed on, all quills at 30 first, against the document's words in great numbers. */
    private static void drawn(int first, int quills, int hands) {
        LeftQuills x = Due.with("o20 1;" + "q0 2 9 99 5;".repeat(quills) + "h0 1 5;".repeat(hands));
        for (int q = 0; q < quills; q++) {
            x.write(q, 0, 30);
        }
        x.seed(first);
        x.drift(1);
        BigInteger seed = BigInteger.valueOf(first);
        int[] drawn = new int[3];
        int[] of = {quills, hands, 3};
        for (int i = 0; i < 3; i++) {
            seed = seed.multiply(BigInteger.valueOf(1103515245)).add(BigInteger.valueOf(12345)).mod(BigInteger.TWO.pow(31));
            drawn[i] = seed.intValueExact() / 65536 % of[i];
        }
        String what = "13 from seed " + first + ", ";
        int page = drawn[2] == 2 ? 1 : 0;
        for (int q = 0; q < quills; q++) {
            boolean isIt = q == drawn[0];
            DUE.is(what + "softness of " + q, x.quill(q, 6), isIt ? new int[] {0, 22, 31}[drawn[2]] : 30);
            DUE.is(what + "length of " + q, x.quill(q, 3), isIt && drawn[2] == 0 ? 94 : 99);
        }
        for (int h = 0; h < hands; h++) {
            DUE.is(what + "pages of " + h, x.hand(h, 3), (h == 0 ? 30 * quills : 0) + (h == drawn[1] ? page : 0));
        }
        DUE.is(what + "the seed", x.seed(0), seed.intValueExact());
    }

    private static void promise14NotIfNone() {
        EDGE.refused("14 a new object", LeftQuills::new, LeftQuills::undo, NOT);
        EDGE.refused("14 a new office", () -> Due.with(Edge.TEXT), LeftQuills::undo, NOT);
        EDGE.refused("14 kept", () -> behind(x -> x.keep(1)), LeftQuills::undo, NOT);
        EDGE.refused("14 gone back", () -> behind(x -> x.goBack(0)), LeftQuills::undo, NOT);
        EDGE.refused("14 another office", () -> behind(x -> Due.office(x, Edge.TEXT)), LeftQuills::undo, NOT);
        EDGE.refused("14 all are undone", () -> behind(x -> x.undo() + x.undo()), LeftQuills::undo, NOT);
    }

    private static LeftQuills behind(ToIntFunction<LeftQuills> call) {
        LeftQuills x = Edge.inUse();
        call.applyAsInt(x);
        return x;
    }

    /** So many pages, one by one. */
    private static LeftQuills written(int pages) {
        LeftQuills x = Due.with("o1 1;q0 2 9 0 5;h0 1 5;");
        for (int i = 0; i < pages; i++) {
            x.write(0, 0, 1);
        }
        return x;
    }

    private static void promise14TwentyAtMost() {
        for (int pages = 1; pages <= 45; pages++) {
            int most = Math.min(20, pages);
            DUE.is("14 can be undone behind " + pages, written(pages).told(12), most);
            DUE.is("14 how many more behind " + pages, written(pages).undo(), most - 1);
        }
    }

    private static void promise14TheOldestAreLost() {
        for (int pages : new int[] {19, 20, 21, 22, 39, 40, 41, 60, 61}) {
            LeftQuills x = written(pages);
            int most = Math.min(20, pages);
            for (int undone = 1; undone <= most; undone++) {
                DUE.is("14 how many more", x.undo(), most - undone);
                DUE.is("14 pages", x.told(7), pages - undone);
                DUE.is("14 softness", x.quill(0, 6), pages - undone);
            }
            DUE.is("14 no more", x.undo(), NOT);
            DUE.is("14 what is lost stays", x.told(7), pages - most);
            x.write(0, 0, 1);
            DUE.is("14 one again", x.undo(), 0);
            DUE.is("14 pages again", x.told(7), pages - most);
        }
    }

    private static void promise14RefusedOnesAreNotKept() {
        LeftQuills x = Due.with("o1 1;q0 2 9 4 9;h0 1 5;");
        x.write(1, 0, 1);
        x.write(0, 0, 41);
        x.dry(0, 10);
        x.dry(1, 1);
        x.mend(0);
        x.mend(1);
        x.broaden(0);
        x.broaden(-1);
        x.drift(61);
        x.undo();
        DUE.is("14 none is kept", x.told(12), 0);
        EDGE.refused("14 none", () -> Due.with("o1 1;q0 2 9 4 9;h0 1 5;"), LeftQuills::undo, NOT);
        LeftQuills y = over();
        int kept = y.told(12);
        y.undo();
        y.write(0, 0, 1);
        y.write(0, 0, 1);
        y.mend(0);
        y.whet();
        y.drift(1);
        DUE.is("14 full ones are not kept", y.told(12), kept);
        y.undo();
        DUE.is("14 the latest is the page", y.told(5), 90000);
    }

    /** The desk behind the call and undo() is as ahead of it. */
    private static void undone(String what, ToIntFunction<LeftQuills> call) {
        LeftQuills x = Edge.inUse();
        int seed = x.seed(3);
        DUE.is("14 " + what + " is refused", Edge.isRefusal(call.applyAsInt(x)) ? 1 : 0, 0);
        DUE.is("14 " + what + " can be undone", x.told(12), 3);
        DUE.is("14 how many more behind " + what, x.undo(), 2);
        x.seed(seed);
        DUE.same("14 " + what + " undone", Shown.of(x), Shown.of(Edge.inUse()));
    }

    private static void promise14EachKindIsUndone() {
        undone("write", x -> x.write(0, 1, 40));
        undone("write by another", x -> x.write(1, 0, 1));
        undone("dry", x -> x.dry(0, 9));
        undone("mend", x -> x.mend(0));
        undone("broaden", x -> x.broaden(1));
        undone("whet", LeftQuills::whet);
        undone("drift", x -> x.drift(60));
        undone("drift once", x -> x.drift(1));
    }

    private static void promise14TheSeedStays() {
        LeftQuills x = Edge.inUse();
        x.drift(60);
        int seed = x.seed(0);
        x.seed(seed);
        x.undo();
        DUE.is("14 as the draws left it", x.seed(9), seed);
        x.undo();
        DUE.is("14 as it was told", x.seed(0), 9);
    }

    private static void promise14OtherCallsAreNotUndone() {
        LeftQuills x = Edge.inUse();
        x.feed('o');
        x.seed(44);
        x.worn(0, 1, 6);
        x.note(0, 1);
        x.goodPages(0, 0);
        x.fastest(0, 4, 0);
        DUE.is("14 two as ahead of them", x.told(12), 2);
        DUE.is("14 the latest is the broader nib", x.undo(), 1);
        DUE.is("14 nib", x.quill(0, 4), 4);
        DUE.is("14 the letter stays", x.told(4), 1);
        DUE.is("14 worn stays", x.told(10), 3);
        DUE.is("14 the book stays", x.told(11), 3);
        x.tear();
        DUE.is("14 the pages", x.undo(), 0);
        DUE.is("14 torn stays torn", x.told(10) + x.told(11), 0);
        DUE.is("14 the seed", x.seed(0), 44);
    }
}
