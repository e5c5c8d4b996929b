import java.math.BigInteger;

/** Promises 15 to 22 at their bounds: each sentence of the document that names one has a test of its own here. */
public final class EdgesTriedTest {
    private static final int NONE = Edge.NONE, UNKNOWN = Edge.UNKNOWN, OUTSIDE = Edge.OUTSIDE;
    private static final int LOWEST = Edge.LOWEST, HIGHEST = Edge.HIGHEST;
    private static final int BILLION = 1000000000;
    private static final Due DUE = new Due();
    private static final Edge EDGE = new Edge(DUE);

    public static void main(String[] args) {
        section3NothingChangesByATrial();
        promise15QuillsAndHandsThereAre();
        promise15TillSoft();
        promise15NibOneBeside();
        promise16QuillsAndHandsThereAre();
        promise16AtMost999();
        promise16TillItCannotBeMended();
        promise16SharpEachTime();
        promise16NotGoodByAMendEither();
        promise17HandsThereAreOrNone();
        promise17NoneIfFewerQuills();
        promise17UnknownAheadOfNone();
        promise17OfLikeOnesTheFirst();
        promise17MostTogether();
        promise17FromNowOn();
        promise18HandsThereAre();
        promise18PagesFrom1To4();
        promise18ThePageFrom0On();
        promise18UnknownAheadOfOutside();
        promise18OutsideAheadOfNone();
        promise18None();
        promise18NoneTakenForTheFirst();
        promise18OfLikeOnesTheFirst();
        promise18MendedIfItCanBe();
        promise18TheBladeGetsBlunt();
        promise18EachWayStartsFromNow();
        promise19QuillsAndHandsThereAre();
        promise19TwentyPages();
        promise19TheLeast();
        promise19None();
        promise20And100000();
        promise21PagesFrom1To99999();
        promise21QuillsAndHandsThereAre();
        promise21UnknownOutsideNone();
        promise21ABegunGooseIsOne();
        promise21NoneIfLifeIs0();
        promise22SlitsFrom0To60();
        promise22OfAHundredFrom0To100();
        promise22CutEachTime();
        promise22AtMost100();
        promise22AsTheBladeIsNow();
        DUE.end();
    }

    /** A page makes the quill 1 softer. */
    private static String byOnes(int length) {
        return "o1 1;q0 2 9 " + length + " 5;q0 2 9 0 1;h0 1 5;";
    }

    /** Quill 0 so soft by hand 0, who makes it 1 softer a page. */
    private static LeftQuills soft(String text, int softness) {
        LeftQuills x = Due.with(text);
        int left = softness;
        while (left > 0) {
            x.write(0, 0, Math.min(40, left));
            left -= Math.min(40, left);
        }
        return x;
    }

    private static void section3NothingChangesByATrial() {
        EDGE.onlyAnswers("15 goodPages", Edge::busy, x -> x.goodPages(1, 1), 7);
        EDGE.onlyAnswers("16 life", Edge::busy, x -> x.life(1, 1), 14);
        EDGE.onlyAnswers("17 toWhom(NONE)", Edge::busy, x -> x.toWhom(NONE), 8);
        EDGE.onlyAnswers("17 toWhom(1)", Edge::busy, x -> x.toWhom(1), 1);
        EDGE.onlyAnswers("18 fastest", Edge::busy, x -> x.fastest(0, 4, NONE), 8);
        EDGE.onlyAnswers("18 fastest, a page", Edge::busy, x -> x.fastest(0, 4, 3), 1);
        EDGE.onlyAnswers("19 byTurns", Edge::busy, x -> x.byTurns(1, 1), 2);
        EDGE.onlyAnswers("20 dearer", Edge::busy, LeftQuills::dearer, 99988);
        EDGE.onlyAnswers("21 geese", Edge::busy, x -> x.geese(1, 1, 141), 2);
        EDGE.onlyAnswers("22 crooked", Edge::busy, x -> x.crooked(1, 0), 940000000);
    }

    private static void promise15QuillsAndHandsThereAre() {
        EDGE.known("15 quill", Edge::busy, (x, v) -> x.goodPages(v, 0), 2);
        EDGE.known("15 hand", Edge::busy, (x, v) -> x.goodPages(0, v), 2);
        EDGE.refused("15 no hands", () -> Due.with("o1 1;q0 1 0 0 1;"), x -> x.goodPages(0, 0), UNKNOWN);
        EDGE.refused("15 no quills", () -> Due.with("o1 1;h0 1 1;"), x -> x.goodPages(0, 0), UNKNOWN);
    }

    /** 50 are the most, as each page is 1 softer at least; so 999 are never reached. */
    private static void promise15TillSoft() {
        for (int softness = 0; softness <= 99; softness++) {
            DUE.is("15 from softness " + softness, soft(byOnes(99), softness).goodPages(0, 0), Math.max(0, 50 - softness));
        }
        LeftQuills x = Due.with("o1 1;q0 1 0 0 5;q1 1 0 0 5;q0 1 0 0 5;h0 9 5;h0 6 5;");
        DUE.is("15 36 each", x.goodPages(0, 0), 1);
        DUE.is("15 40 each", x.goodPages(1, 0), 1);
        DUE.is("15 24 each", x.goodPages(0, 1), 2);
        x.write(2, 1, 1);
        DUE.is("15 60 is soft", x.goodPages(2, 0), 0);
        DUE.is("15 48 is not soft", x.goodPages(2, 1), 1);
    }

    private static void promise15NibOneBeside() {
        for (int nib = 1; nib <= 9; nib++) {
            for (int wants = 1; wants <= 9; wants++) {
                LeftQuills x = Due.with("o1 1;q0 2 9 10 " + nib + ";h0 1 " + wants + ";");
                boolean isGood = Math.abs(nib - wants) <= 1;
                DUE.is("15 nib " + nib + " for " + wants, x.goodPages(0, 0), isGood ? 50 : 0);
                DUE.is("16 nib " + nib + " for " + wants, x.life(0, 0), isGood ? 150 : 0);
                DUE.is("18 nib " + nib + " for " + wants, x.fastest(0, 1, NONE), isGood ? 2 : NONE);
                DUE.is("19 nib " + nib + " for " + wants, x.byTurns(0, 0), isGood ? 1 : NONE);
                DUE.is("21 nib " + nib + " for " + wants, x.geese(0, 0, 1), isGood ? 1 : NONE);
            }
        }
    }

    private static void promise16QuillsAndHandsThereAre() {
        EDGE.known("16 quill", Edge::busy, (x, v) -> x.life(v, 0), 2);
        EDGE.known("16 hand", Edge::busy, (x, v) -> x.life(0, v), 2);
        EDGE.refused("16 no hands", () -> Due.with("o1 1;q0 1 0 0 1;"), x -> x.life(0, 0), UNKNOWN);
    }

    private static void promise16AtMost999() {
        DUE.is("16 1000 are 999", soft(byOnes(99), 0).life(0, 0), 999);
        DUE.is("16 999", soft(byOnes(99), 1).life(0, 0), 999);
        DUE.is("16 998", soft(byOnes(99), 2).life(0, 0), 998);
        DUE.is("16 1000 by length 95", soft(byOnes(95), 0).life(0, 0), 999);
        DUE.is("16 950 by length 94", soft(byOnes(94), 0).life(0, 0), 950);
    }

    private static void promise16TillItCannotBeMended() {
        for (int length = 0; length <= 99; length++) {
            for (int softness : new int[] {0, 1, 49, 50, 51, 99}) {
                int due = Math.max(0, 50 - softness) + 50 * (length / 5);
                DUE.is("16 length " + length + ", softness " + softness, soft(byOnes(length), softness).life(0, 0), Math.min(999, due));
            }
        }
    }

    private static void promise16SharpEachTime() {
        LeftQuills x = Due.with(byOnes(14));
        DUE.is("16 sharp", x.life(0, 0), 150);
        x.broaden(1);
        x.broaden(1);
        DUE.is("16 blunt now, sharp each time", x.life(0, 0), 150);
        LeftQuills y = Due.with(byOnes(8));
        y.broaden(1);
        DUE.is("16 too short for it as it is now", y.mend(0), Edge.NOT);
        DUE.is("16 one mend all the same", y.life(0, 0), 100);
    }

    private static void promise16NotGoodByAMendEither() {
        LeftQuills x = Due.with("o1 1;q0 2 9 99 5;q0 1 0 4 5;q0 1 0 5 5;h0 1 7;h0 9 6;");
        DUE.is("16 nib 2 beside", x.life(0, 0), 0);
        DUE.is("16 one page, no mend", x.life(1, 1), 1);
        DUE.is("16 one page, one mend", x.life(2, 1), 2);
        x.broaden(0);
        DUE.is("16 nib 1 beside", x.life(0, 0), 999);
    }

    private static void promise17HandsThereAreOrNone() {
        EDGE.taken("17 hand or NONE", Edge::busy, LeftQuills::toWhom, NONE, 1, UNKNOWN);
        EDGE.taken("17 no hands", () -> Due.with("o1 1;q0 1 0 0 1;"), LeftQuills::toWhom, NONE, NONE, UNKNOWN);
        EDGE.taken("17 no office", LeftQuills::new, LeftQuills::toWhom, NONE, NONE, UNKNOWN);
    }

    private static String office(int quills, int hands) {
        return "o1 1;" + "q0 2 9 5 5;".repeat(quills) + "h0 1 5;".repeat(hands);
    }

    private static void promise17NoneIfFewerQuills() {
        for (int quills = 0; quills <= 8; quills++) {
            for (int hands = 0; hands <= 4; hands++) {
                LeftQuills x = Due.with(office(quills, hands));
                DUE.is("17 " + quills + " quills, " + hands + " hands", x.toWhom(NONE), quills < hands ? NONE : 50 * hands);
                for (int h = 0; h < hands; h++) {
                    DUE.is("17 hand " + h + " of " + hands + ", quills " + quills, x.toWhom(h), quills < hands ? NONE : h);
                }
            }
        }
    }

    private static void promise17UnknownAheadOfNone() {
        for (int h : new int[] {LOWEST, -2, 2, HIGHEST}) {
            EDGE.refused("17 fewer quills, hand " + h, () -> Due.with(office(1, 2)), x -> x.toWhom(h), UNKNOWN);
        }
    }

    private static void promise17OfLikeOnesTheFirst() {
        LeftQuills x = Due.with("o1 1;" + "q0 2 9 5 1;".repeat(4) + "h0 1 9;h0 1 9;h0 1 9;h0 1 9;");
        DUE.is("17 nothing good at all", x.toWhom(NONE), 0);
        for (int h = 0; h < 4; h++) {
            DUE.is("17 the lesser quill, hand by hand", x.toWhom(h), h);
        }
        // hand 0 has 0 by quill 0, 50 by quills 1, 2; hand 1 has 50 by quill 1 alone
        LeftQuills y = Due.with("o1 1;q0 2 9 5 9;q0 2 9 5 4;q0 2 9 5 2;h0 1 3;h0 1 5;");
        DUE.is("17 together", y.toWhom(NONE), 100);
        DUE.is("17 the greater quill, as that is more together", y.toWhom(0), 2);
        DUE.is("17 the one that is good", y.toWhom(1), 1);
    }

    /** The last hand by the last quill, and no two hands by one. */
    private static void promise17MostTogether() {
        LeftQuills x = Due.with("o1 1;q0 1 0 5 1;q0 1 0 5 2;q0 1 0 5 3;q0 1 0 5 4;q0 1 0 5 5;q0 1 0 5 6;q0 1 0 5 7;q0 2 9 5 7;h0 1 7;h0 1 7;h0 1 7;h0 1 7;");
        // quills 5, 6 have 12 each, quill 7 has 50, so the fourth hand has nothing good
        DUE.is("17 together", x.toWhom(NONE), 74);
        int[] due = {0, 5, 6, 7};
        for (int h = 0; h < 4; h++) {
            DUE.is("17 hand " + h, x.toWhom(h), due[h]);
        }
    }

    /** No answer of an earlier call stays. */
    private static void promise17FromNowOn() {
        LeftQuills x = Due.with(office(2, 1));
        DUE.is("17 together", x.toWhom(NONE), 50);
        x.write(0, 0, 1);
        DUE.is("17 the other one", x.toWhom(0), 1);
        x.write(1, 0, 2);
        DUE.is("17 fewer together", x.toWhom(NONE), 49);
        DUE.is("17 the first again", x.toWhom(0), 0);
        x.write(0, 0, 40);
        x.write(1, 0, 40);
        x.write(0, 0, 40);
        x.write(1, 0, 40);
        DUE.is("17 nothing good", x.toWhom(NONE), 0);
        DUE.is("17 the first of like ones", x.toWhom(0), 0);
    }

    private static void promise18HandsThereAre() {
        EDGE.known("18 hand", Edge::busy, (x, v) -> x.fastest(v, 1, NONE), 2);
        LeftQuills y = Due.with("o1 1;q0 2 9 0 9;q0 2 9 0 5;h0 1 1;h0 1 9;h0 1 3;h0 1 5;");
        int[] due = {NONE, 0, NONE, 1};
        for (int h = 0; h < 4; h++) {
            DUE.is("18 the quill of hand " + h, y.fastest(h, 1, 0), due[h]);
        }
        EDGE.refused("18 no hands", () -> Due.with("o1 1;q0 1 0 0 1;"), x -> x.fastest(0, 1, NONE), UNKNOWN);
    }

    private static void promise18PagesFrom1To4() {
        EDGE.bounds("18 pages", Edge::busy, (x, v) -> x.fastest(0, v, NONE), 1, 4);
        for (int n = 1; n <= 4; n++) {
            DUE.is("18 minutes of " + n, Due.with(office(1, 1)).fastest(0, n, NONE), 2 * n);
        }
    }

    private static void promise18ThePageFrom0On() {
        for (int pages = 1; pages <= 4; pages++) {
            int n = pages;
            EDGE.bounds("18 page of " + n, Edge::busy, (x, v) -> x.fastest(0, n, v), NONE, n - 1);
        }
    }

    private static void promise18UnknownAheadOfOutside() {
        for (int h : new int[] {LOWEST, -1, 2, HIGHEST}) {
            EDGE.refused("18 hand, pages", Edge::busy, x -> x.fastest(h, 0, NONE), UNKNOWN);
            EDGE.refused("18 hand, page", Edge::busy, x -> x.fastest(h, 4, 4), UNKNOWN);
            EDGE.refused("18 hand, pages, page", Edge::busy, x -> x.fastest(h, HIGHEST, LOWEST), UNKNOWN);
        }
    }

    private static void promise18OutsideAheadOfNone() {
        String noGoodOne = "o1 1;q0 2 9 5 1;h0 1 9;";
        EDGE.refused("18 pages, none", () -> Due.with(noGoodOne), x -> x.fastest(0, 0, NONE), OUTSIDE);
        EDGE.refused("18 pages, none", () -> Due.with(noGoodOne), x -> x.fastest(0, 5, NONE), OUTSIDE);
        EDGE.refused("18 page, none", () -> Due.with(noGoodOne), x -> x.fastest(0, 1, 1), OUTSIDE);
        EDGE.refused("18 page, none", () -> Due.with(noGoodOne), x -> x.fastest(0, 1, -2), OUTSIDE);
    }

    private static void promise18None() {
        for (int n = 1; n <= 4; n++) {
            LeftQuills x = Due.with("o1 1;h0 1 1;");
            DUE.is("18 no quills", x.fastest(0, n, NONE), NONE);
            DUE.is("18 no quills, the last page", x.fastest(0, n, n - 1), NONE);
        }
        // one page each, no mend: as many pages as quills
        for (int quills = 1; quills <= 4; quills++) {
            LeftQuills x = Due.with("o1 1;" + "q0 1 0 4 5;".repeat(quills) + "h0 9 5;");
            for (int n = 1; n <= 4; n++) {
                DUE.is("18 " + n + " by " + quills, x.fastest(0, n, NONE), n <= quills ? 3 * n - 1 : NONE);
                DUE.is("18 last page of " + n + " by " + quills, x.fastest(0, n, n - 1), n <= quills ? n - 1 : NONE);
            }
        }
    }

    private static void promise18NoneTakenForTheFirst() {
        LeftQuills x = Due.with("o1 1;q0 1 0 4 1;q0 1 0 4 5;h0 9 5;");
        DUE.is("18 the first by quill 1", x.fastest(0, 1, 0), 1);
        DUE.is("18 no minute for taking it", x.fastest(0, 1, NONE), 2);
        x.write(1, 0, 1);
        DUE.is("18 it wrote ahead, but it is soft", x.fastest(0, 1, NONE), NONE);
        LeftQuills y = Due.with("o1 1;q0 2 9 4 5;q0 2 9 4 5;h0 1 5;");
        y.write(1, 0, 1);
        DUE.is("18 the one that wrote is not ahead of the lesser", y.fastest(0, 1, 0), 0);
        DUE.is("18 no minute for it either", y.fastest(0, 1, NONE), 2);
    }

    private static void promise18OfLikeOnesTheFirst() {
        LeftQuills x = Due.with("o9 1;q0 1 0 99 5;q0 1 0 99 5;h0 9 5;");
        // each further page wants a mend or the other one, 1 minute either way
        int[] due = {0, 10, 10, 10};
        for (int i = 0; i < 4; i++) {
            DUE.is("18 page " + i, x.fastest(0, 4, i), due[i]);
        }
        DUE.is("18 minutes", x.fastest(0, 4, NONE), 11);
        LeftQuills y = Due.with("o9 2;q0 1 0 99 5;q0 1 0 99 5;q0 1 0 99 5;h0 9 5;");
        // each quill has one page, another is 1, a mend 2: of the ways with one mend the first has it at page 1
        DUE.is("18 three by three", y.fastest(0, 3, NONE), 8);
        DUE.is("18 four by three", y.fastest(0, 4, NONE), 12);
        int[] four = {0, 10, 1, 2};
        for (int i = 0; i < 4; i++) {
            DUE.is("18 page " + i + " of four", y.fastest(0, 4, i), four[i]);
        }
        LeftQuills z = Due.with("o1 1;" + "q0 2 9 99 5;".repeat(8) + "h0 1 5;");
        for (int i = 0; i < 4; i++) {
            DUE.is("18 all alike", z.fastest(0, 4, i), 0);
        }
    }

    private static void promise18MendedIfItCanBe() {
        for (int length = 0; length <= 16; length++) {
            LeftQuills x = Due.with("o9 20;q0 1 0 " + length + " 5;h0 9 5;");
            int most = 1 + length / 5;
            for (int n = 1; n <= 4; n++) {
                DUE.is("18 " + n + " by length " + length, x.fastest(0, n, NONE), n <= most ? 22 * n - 20 : NONE);
            }
        }
        LeftQuills soft = Due.with("o9 20;q0 1 0 5 5;h0 9 5;");
        soft.write(0, 0, 2);
        DUE.is("18 the first is mended", soft.fastest(0, 1, 0), 10);
        DUE.is("18 by 20 minutes", soft.fastest(0, 1, NONE), 22);
        DUE.is("18 no second one", soft.fastest(0, 2, NONE), NONE);
    }

    /** Blunt behind one cut: 5, then 9 each; the nib gets broader by it. */
    private static void promise18TheBladeGetsBlunt() {
        for (int length = 0; length <= 24; length++) {
            LeftQuills x = Due.with("o1 1;q0 1 0 " + length + " 5;h0 9 6;");
            int most = length < 5 ? 1 : length < 14 ? 2 : length < 23 ? 3 : 4;
            for (int n = 1; n <= 4; n++) {
                DUE.is("18 " + n + " by length " + length, x.fastest(0, n, NONE), n <= most ? 3 * n - 1 : NONE);
            }
        }
        LeftQuills x = Due.with("o1 1;q0 1 0 99 5;h0 9 5;");
        // the second blunt mend makes the nib 7, which is 2 beside
        DUE.is("18 three", x.fastest(0, 3, NONE), 8);
        DUE.is("18 the nib is too broad for a fourth", x.fastest(0, 4, NONE), NONE);
    }

    /** A way that was tried in vain ahead leaves its mends to no other. */
    private static void promise18EachWayStartsFromNow() {
        LeftQuills x = Due.with("o1 3;q0 1 0 9 5;q0 1 0 5 5;h0 9 5;");
        x.write(0, 0, 3);
        x.write(1, 0, 3);
        // quill 0 first leaves a blunt blade for quill 1, which is too short for that; the other way about it does
        DUE.is("18 two mends and another", x.fastest(0, 2, NONE), 11);
        DUE.is("18 quill 1 first", x.fastest(0, 2, 0), 11);
        DUE.is("18 quill 0 by the blunt blade", x.fastest(0, 2, 1), 10);
        LeftQuills y = Due.with("o1 3;q0 2 9 99 2;q0 1 0 0 4;q0 1 0 9 1;h0 9 4;");
        y.broaden(2);
        // quill 0 is too fine till a blunt mend, also where it was tried mended ahead; quill 1 has one page
        DUE.is("18 quill 0 is mended", y.fastest(0, 2, NONE), 7);
        DUE.is("18 at page 0", y.fastest(0, 2, 0), 10);
        DUE.is("18 and writes on", y.fastest(0, 2, 1), 0);
    }

    private static void promise19QuillsAndHandsThereAre() {
        EDGE.known("19 quill", Edge::busy, (x, v) -> x.byTurns(v, 1), 2);
        EDGE.known("19 hand", Edge::busy, (x, v) -> x.byTurns(1, v), 2);
        EDGE.refused("19 no hands", () -> Due.with("o1 1;q0 1 0 0 1;"), x -> x.byTurns(0, 0), UNKNOWN);
    }

    /** By one alone the 20th page is the last that must be good. */
    private static void promise19TwentyPages() {
        DUE.is("19 20 by 1 from 30 are 50", soft(byOnes(0), 30).byTurns(0, 0), 1);
        DUE.is("19 20 by 1 from 31 are 51", soft(byOnes(0), 31).byTurns(0, 0), 2);
        String byTwos = "o1 1;q0 2 7 0 5;h0 1 5;h0 2 5;";
        DUE.is("19 20 by 2 from 10 are 50", soft(byTwos, 10).byTurns(0, 1), 1);
        DUE.is("19 20 by 2 from 11 are 51", soft(byTwos, 11).byTurns(0, 1), 2);
    }

    /** From softness 0; what a quill has behind each hour is told for the first turns. */
    private static void promise19TheLeast() {
        // 60 by one alone
        DUE.is("19 3 a page", Due.with("o1 1;q0 1 1 0 5;h0 1 5;").byTurns(0, 0), 2);
        // by two 12, 4; 16, 8; 20, 12: 4 more each turn, 48 at the tenth
        DUE.is("19 12 a page", Due.with("o1 1;q0 1 0 0 5;h0 3 5;").byTurns(0, 0), 2);
        // by two 8 more each turn, 56 at the sixth; by three 16, 8, 2; 18, 10, 3; 19, 11, 3
        DUE.is("19 16 a page", Due.with("o1 1;q0 1 0 0 5;h0 4 5;").byTurns(0, 0), 3);
        // by three 8 more each turn, 56 at the fifth; by four 24, 16, 8, 2; 26, 18, 10, 3; 27, 19, 11, 3
        DUE.is("19 24 a page", Due.with("o1 1;q0 1 0 0 5;h0 6 5;").byTurns(0, 0), 4);
        // by four 8 more each turn, 56 at the fourth; by five 32, 24, 16, 8, 2; 34, 26, 18, 10, 3; 35
        DUE.is("19 32 a page", Due.with("o1 1;q0 1 0 0 5;h0 8 5;").byTurns(0, 0), 5);
        // by five 40, 32, 24, 16, 8; 48, 40, 32, 24, 16; 56; by six 40, .., 8, 2; 42, .., 10, 3; 43, .., 11, 3
        DUE.is("19 40 a page", Due.with("o1 1;q1 1 0 0 5;h0 9 5;").byTurns(0, 0), 6);
    }

    private static void promise19None() {
        DUE.is("19 from 49 by 1", soft(byOnes(0), 49).byTurns(0, 0), 2);
        DUE.is("19 from 50 by 1, soft at once", soft(byOnes(0), 50).byTurns(0, 0), NONE);
        DUE.is("19 from 99", soft(byOnes(0), 99).byTurns(0, 0), NONE);
    }

    private static void promise20And100000() {
        DUE.is("20 no office", new LeftQuills().dearer(), 100000);
        DUE.is("20 no hands", Due.with(office(8, 0)).dearer(), 100000);
        DUE.is("20 no quills", Due.with(office(0, 4)).dearer(), 100000);
        DUE.is("20 all left", Due.with(office(8, 4)).dearer(), 101600);
        DUE.is("20 all right", Due.with(office(8, 4).replace("q0", "q1").replace("h0", "h1")).dearer(), 98400);
        DUE.is("20 alike", Due.with("o1 1;q0 2 9 5 5;q1 2 9 5 5;h0 1 5;h1 1 5;").dearer(), 100000);
        DUE.is("20 50 less 10 by 5 each", Due.with("o1 1;q0 2 9 5 5;q1 2 9 5 5;h0 1 5;").dearer(), 100040);
    }

    private static void promise21PagesFrom1To99999() {
        EDGE.bounds("21 pages", Edge::busy, (x, v) -> x.geese(0, 0, v), 1, 99999);
        DUE.is("21 1", Due.with(office(1, 1)).geese(0, 0, 1), 1);
    }

    private static void promise21QuillsAndHandsThereAre() {
        EDGE.known("21 quill", Edge::busy, (x, v) -> x.geese(v, 0, 1), 2);
        EDGE.known("21 hand", Edge::busy, (x, v) -> x.geese(0, v, 1), 2);
    }

    private static void promise21UnknownOutsideNone() {
        for (int n : new int[] {LOWEST, -1, 0, 100000, HIGHEST}) {
            EDGE.refused("21 quill, pages", Edge::busy, x -> x.geese(2, 0, n), UNKNOWN);
            EDGE.refused("21 hand, pages", Edge::busy, x -> x.geese(0, -1, n), UNKNOWN);
            EDGE.refused("21 pages, none", () -> Due.with("o1 1;q0 1 0 0 1;h0 1 9;"), x -> x.geese(0, 0, n), OUTSIDE);
        }
    }

    private static void promise21ABegunGooseIsOne() {
        LeftQuills one = Due.with("o1 1;q0 1 0 4 5;h0 9 5;");
        DUE.is("21 life 1", one.life(0, 0), 1);
        DUE.is("21 9 pages", one.geese(0, 0, 9), 1);
        DUE.is("21 10 pages", one.geese(0, 0, 10), 1);
        DUE.is("21 11 pages", one.geese(0, 0, 11), 2);
        DUE.is("21 99990 pages", one.geese(0, 0, 99990), 9999);
        DUE.is("21 99999 pages", one.geese(0, 0, 99999), 10000);
        LeftQuills most = Due.with("o1 1;q0 2 9 99 5;h0 1 5;");
        DUE.is("21 life 999", most.life(0, 0), 999);
        DUE.is("21 9990 pages", most.geese(0, 0, 9990), 1);
        DUE.is("21 9991 pages", most.geese(0, 0, 9991), 2);
        DUE.is("21 99900 pages", most.geese(0, 0, 99900), 10);
        DUE.is("21 99901 pages", most.geese(0, 0, 99901), 11);
        DUE.is("21 99999 pages of life 999", most.geese(0, 0, 99999), 11);
    }

    private static void promise21NoneIfLifeIs0() {
        LeftQuills x = soft(byOnes(4), 49);
        DUE.is("21 life 1 yet", x.geese(0, 0, 10), 1);
        x.write(0, 0, 1);
        DUE.is("21 life 0", x.geese(0, 0, 10), NONE);
        DUE.is("21 life 0, 1 page", x.geese(0, 0, 1), NONE);
        DUE.is("21 life 0, 99999 pages", x.geese(0, 0, 99999), NONE);
        DUE.is("21 a mend yet", soft(byOnes(5), 50).geese(0, 0, 501), 2);
    }

    private static void promise22SlitsFrom0To60() {
        EDGE.bounds("22 slits", Edge::busy, (x, v) -> x.crooked(v, 1), 0, 60);
        EDGE.bounds("22 slits, no office", LeftQuills::new, (x, v) -> x.crooked(v, 1), 0, 60);
        DUE.is("22 no slit", new LeftQuills().crooked(0, 100), BILLION);
        DUE.is("22 no slit", new LeftQuills().crooked(0, 0), BILLION);
        DUE.is("22 60 straight ones", new LeftQuills().crooked(60, 0), BILLION);
    }

    private static void promise22OfAHundredFrom0To100() {
        EDGE.bounds("22 of a hundred", Edge::busy, (x, v) -> x.crooked(1, v), 0, 100);
        EDGE.refused("22 both", Edge::busy, x -> x.crooked(LOWEST, HIGHEST), OUTSIDE);
        DUE.is("22 0", new LeftQuills().crooked(1, 0), BILLION);
        DUE.is("22 1", new LeftQuills().crooked(1, 1), 990000000);
        DUE.is("22 99", new LeftQuills().crooked(1, 99), 10000000);
        DUE.is("22 100", new LeftQuills().crooked(1, 100), 0);
    }

    /** The blade has cut so often, 0 to 40. */
    private static LeftQuills cut(int cuts) {
        LeftQuills x = Due.with("o1 1;" + "q0 1 0 0 1;".repeat(5));
        for (int i = 0; i < cuts; i++) {
            x.broaden(i / 8);
        }
        return x;
    }

    private static int odds(int n, int crooked) {
        BigInteger odds = BigInteger.valueOf(BILLION);
        for (int i = 0; i < n; i++) {
            odds = odds.multiply(BigInteger.valueOf(100 - crooked)).divide(BigInteger.valueOf(100));
        }
        return odds.intValueExact();
    }

    private static void promise22CutEachTime() {
        for (int n = 0; n <= 60; n++) {
            LeftQuills x = cut(0);
            for (int q = 0; q <= 100; q++) {
                DUE.is("22 " + n + " by " + q, x.crooked(n, q), odds(n, q));
            }
        }
        DUE.is("22 cut behind the fifth", cut(0).crooked(5, 33), 135012510);
        DUE.is("22 60 by 50", cut(0).crooked(60, 50), 0);
    }

    private static void promise22AtMost100() {
        for (int cuts = 0; cuts <= 40; cuts++) {
            LeftQuills x = cut(cuts);
            for (int q : new int[] {0, 1, 2, 50, 97, 98, 99, 100}) {
                int crooked = Math.min(100, q + 3 * cuts);
                DUE.is("22 " + q + " and " + cuts + " cuts", x.crooked(1, q), odds(1, crooked));
                DUE.is("22 three, " + q + " and " + cuts + " cuts", x.crooked(3, q), odds(3, crooked));
            }
        }
        DUE.is("22 99 of a hundred", cut(33).crooked(1, 0), 10000000);
        DUE.is("22 100 of a hundred", cut(33).crooked(1, 1), 0);
        DUE.is("22 101 of a hundred", cut(33).crooked(1, 2), 0);
        DUE.is("22 102 of a hundred", cut(34).crooked(2, 0), 0);
    }

    private static void promise22AsTheBladeIsNow() {
        LeftQuills x = cut(10);
        DUE.is("22 ten cuts", x.crooked(1, 0), 700000000);
        x.whet();
        DUE.is("22 whetted", x.crooked(1, 0), BILLION);
        x.undo();
        DUE.is("22 undone", x.crooked(1, 0), 700000000);
    }
}
