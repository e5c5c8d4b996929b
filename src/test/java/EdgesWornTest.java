/** Promises 23 to 28 at their bounds: each sentence of the document that names one has a test of its own here. */
public final class EdgesWornTest {
    private static final int NONE = Edge.NONE, UNKNOWN = Edge.UNKNOWN, OUTSIDE = Edge.OUTSIDE, FULL = Edge.FULL;
    private static final int LOWEST = Edge.LOWEST, HIGHEST = Edge.HIGHEST;
    /** Wear of a page by quill 0: 12, 11, 10, 8. */
    private static final String FOUR_HANDS = "o1 1;q0 2 8 0 5;h1 9 5;h1 8 5;h1 7 5;h0 9 5;";
    private static final Due DUE = new Due();
    private static final Edge EDGE = new Edge(DUE);

    public static void main(String[] args) {
        promise23PagesFrom1To9();
        promise23SoftnessFrom0To99();
        promise23QuillsThereAre();
        promise23FullAt6();
        promise23UnknownOutsideFull();
        promise24AllIfNothingIsWorn();
        promise24AtMost99();
        promise24OneAtLeast();
        promise24AllThatIsTold();
        promise24FromSoftness0();
        promise25NoneIfNonePartsThem();
        promise25TheGreatestPartIsLeast();
        promise25AmongThoseThatFit();
        promise25OfLikeOnesTheLeast();
        promise26SoftnessFrom0To99();
        promise26QuillsThereAre();
        promise26FullAt15();
        promise26UnknownOutsideFull();
        promise27HowMuchBothHad();
        promise27BothTakeAgain();
        promise28NoneIfTheBookIsEmpty();
        promise28TheFirstThatIsOtherwise();
        promise28SoftnessAtItsEnds();
        DUE.end();
    }

    private static LeftQuills worn(int entries) {
        LeftQuills x = Edge.busy();
        x.tear();
        for (int i = 0; i < entries; i++) {
            x.worn(1, 1, 7);
        }
        return x;
    }

    private static LeftQuills noted(int entries) {
        LeftQuills x = Edge.busy();
        x.tear();
        for (int i = 0; i < entries; i++) {
            x.note(1, 0);
        }
        return x;
    }

    private static void promise23PagesFrom1To9() {
        EDGE.bounds("23 pages", Edge::busy, (x, v) -> x.worn(0, v, 0), 1, 9);
        for (int n = 1; n <= 9; n++) {
            LeftQuills x = Due.with(FOUR_HANDS);
            DUE.is("23 one", x.worn(0, n, 8 * n), 1);
            DUE.is("24 hand 3 behind " + n, x.whose(), 8);
        }
    }

    private static void promise23SoftnessFrom0To99() {
        EDGE.bounds("23 softness", Edge::busy, (x, v) -> x.worn(0, 1, v), 0, 99);
    }

    private static void promise23QuillsThereAre() {
        EDGE.known("23 quill", Edge::busy, (x, v) -> x.worn(v, 1, 1), 2);
        EDGE.refused("23 no quills", () -> Due.with("o1 1;h0 1 1;"), x -> x.worn(0, 1, 1), UNKNOWN);
    }

    private static void promise23FullAt6() {
        for (int entries = 0; entries <= 5; entries++) {
            DUE.is("23 how much", worn(entries).worn(0, 9, 99), entries + 1);
        }
        EDGE.refused("23 the seventh", () -> worn(6), x -> x.worn(0, 1, 6), FULL);
        EDGE.refused("23 the seventh, which fits", () -> worn(6), x -> x.worn(1, 1, 7), FULL);
        LeftQuills x = worn(6);
        x.worn(0, 1, 6);
        DUE.is("24 the seventh parts nobody", x.whose(), 2);
    }

    private static void promise23UnknownOutsideFull() {
        for (int wrong : new int[] {LOWEST, -1, 100, HIGHEST}) {
            EDGE.refused("23 quill, pages", Edge::busy, x -> x.worn(2, wrong, 0), UNKNOWN);
            EDGE.refused("23 quill, softness", Edge::busy, x -> x.worn(-1, 1, wrong), UNKNOWN);
            EDGE.refused("23 pages, softness", Edge::busy, x -> x.worn(0, wrong, wrong), OUTSIDE);
            EDGE.refused("23 quill, pages, full", () -> worn(6), x -> x.worn(2, wrong, 0), UNKNOWN);
            EDGE.refused("23 pages, full", () -> worn(6), x -> x.worn(0, wrong, 0), OUTSIDE);
            EDGE.refused("23 softness, full", () -> worn(6), x -> x.worn(0, 1, wrong), OUTSIDE);
        }
        EDGE.refused("23 quill, full", () -> worn(6), x -> x.worn(2, 1, 0), UNKNOWN);
    }

    private static void promise24AllIfNothingIsWorn() {
        DUE.is("24 no office", new LeftQuills().whose(), 0);
        DUE.is("24 no hands", Due.with("o1 1;q0 1 0 0 1;").whose(), 0);
        DUE.is("24 one hand", Due.with("o1 1;h0 1 1;").whose(), 1);
        DUE.is("24 four hands", Due.with(FOUR_HANDS).whose(), 15);
        EDGE.onlyAnswers("24 changes nothing", Edge::busy, LeftQuills::whose, 2);
    }

    private static int whose(int n, int softness) {
        LeftQuills x = Due.with(FOUR_HANDS);
        x.worn(0, n, softness);
        return x.whose();
    }

    private static void promise24AtMost99() {
        DUE.is("24 9 by 12 are 99, 9 by 11 are 99", whose(9, 99), 3);
        DUE.is("24 9 by 10", whose(9, 90), 4);
        DUE.is("24 9 by 8", whose(9, 72), 8);
        DUE.is("24 98 by nobody", whose(9, 98), 0);
        DUE.is("24 8 by 12", whose(8, 96), 1);
        DUE.is("24 8 by 11", whose(8, 88), 2);
        DUE.is("24 8 by 12 are not 99", whose(8, 99), 0);
    }

    private static void promise24OneAtLeast() {
        DUE.is("24 0 by nobody", whose(1, 0), 0);
        LeftQuills x = Due.with("o1 1;q0 2 9 0 5;h0 1 5;h0 2 5;h1 1 5;");
        x.worn(0, 9, 9);
        DUE.is("24 1 a page by 12 / 14 and by 24 / 14", x.whose(), 3);
        x.tear();
        x.worn(0, 1, 5);
        DUE.is("24 1 and 4", x.whose(), 4);
    }

    private static void promise24AllThatIsTold() {
        LeftQuills x = Due.with(FOUR_HANDS);
        for (int n = 1; n <= 5; n++) {
            x.worn(0, n, 11 * n);
            DUE.is("24 hand 1 by " + n, x.whose(), 2);
        }
        x.worn(0, 9, 90);
        DUE.is("24 the sixth is of hand 2", x.whose(), 0);
    }

    private static void promise24FromSoftness0() {
        LeftQuills x = Due.with(FOUR_HANDS);
        x.write(0, 0, 40);
        x.worn(0, 1, 12);
        DUE.is("24 not from now", x.whose(), 1);
    }

    private static void promise25NoneIfNonePartsThem() {
        DUE.is("25 no office", new LeftQuills().lookAt(), NONE);
        DUE.is("25 no hands", Due.with("o1 1;q0 1 0 0 1;").lookAt(), NONE);
        DUE.is("25 no quills", Due.with("o1 1;h0 1 1;h1 9 1;").lookAt(), NONE);
        DUE.is("25 one hand", Due.with("o1 1;q0 1 0 0 1;h0 1 1;").lookAt(), NONE);
        DUE.is("25 two alike", Due.with("o1 1;q0 1 0 0 1;h0 1 1;h0 1 9;").lookAt(), NONE);
        DUE.is("25 1 and 1 by a hard one", Due.with("o1 1;q0 2 9 0 1;h0 1 1;h0 2 1;").lookAt(), NONE);
        LeftQuills x = Due.with(FOUR_HANDS);
        x.worn(0, 1, 0);
        DUE.is("25 nobody is left", x.lookAt(), NONE);
        x.tear();
        x.worn(0, 1, 12);
        DUE.is("25 one is left", x.lookAt(), NONE);
        EDGE.onlyAnswers("25 changes nothing", () -> worn(0), LeftQuills::lookAt, 0);
    }

    private static void promise25TheGreatestPartIsLeast() {
        // 1, 1, 1, 2 by quill 0; 4, 4, 8, 12 by quill 1
        String text = "o1 1;q0 2 9 0 5;q0 1 0 0 5;h0 1 5;h0 1 5;h0 2 5;h0 3 5;";
        DUE.is("25 two alike are fewer than three", Due.with(text).lookAt(), 1);
        DUE.is("25 of two with two, the first", Due.with("o1 1;q0 1 0 0 5;q0 2 0 0 5;h0 1 5;h0 1 5;h0 2 5;h0 2 5;").lookAt(), 0);
        // 1, 1, 2, 2 by quill 0; 4, 8, 12, 12 by quill 1: two are the greatest part by both
        DUE.is("25 two pairs first", Due.with("o1 1;q0 2 9 0 5;q0 1 0 0 5;h0 1 5;h0 2 5;h0 3 5;h0 3 5;").lookAt(), 0);
    }

    private static void promise25AmongThoseThatFit() {
        // 4, 8, 8 by quill 0; 1, 1, 5 by quill 1
        LeftQuills x = Due.with("o1 1;q0 1 0 0 5;q0 2 9 0 5;h0 1 5;h0 2 5;h1 1 5;");
        x.worn(1, 1, 1);
        DUE.is("24 hand 2 is out", x.whose(), 3);
        DUE.is("25 hand 2 counts no more", x.lookAt(), 0);
        x.tear();
        x.worn(0, 1, 8);
        DUE.is("24 hand 0 is out", x.whose(), 6);
        DUE.is("25 the other quill", x.lookAt(), 1);
    }

    private static void promise25OfLikeOnesTheLeast() {
        String alike = "o1 1;" + "q0 1 0 0 5;".repeat(8) + "h0 1 5;h0 2 5;";
        DUE.is("25 the least of eight", Due.with(alike).lookAt(), 0);
        String last = "o1 1;" + "q0 2 9 0 5;".repeat(7) + "q0 1 0 0 5;h0 1 5;h0 2 5;";
        DUE.is("25 the last of eight parts them", Due.with(last).lookAt(), 7);
    }

    private static void promise26SoftnessFrom0To99() {
        EDGE.bounds("26 softness", Edge::busy, (x, v) -> x.note(0, v), 0, 99);
    }

    private static void promise26QuillsThereAre() {
        EDGE.known("26 quill", Edge::busy, (x, v) -> x.note(v, 1), 2);
        EDGE.refused("26 no quills", () -> Due.with("o1 1;h0 1 1;"), x -> x.note(0, 0), UNKNOWN);
    }

    private static void promise26FullAt15() {
        for (int entries = 0; entries <= 14; entries++) {
            DUE.is("26 how many", noted(entries).note(0, 99), entries + 1);
        }
        EDGE.refused("26 the sixteenth", () -> noted(15), x -> x.note(0, 99), FULL);
        EDGE.refused("26 the sixteenth, which is so", () -> noted(15), x -> x.note(1, 0), FULL);
        LeftQuills x = noted(15);
        x.note(0, 99);
        DUE.is("28 the sixteenth is not there", x.judge(), NONE);
    }

    private static void promise26UnknownOutsideFull() {
        for (int wrong : new int[] {LOWEST, -1, 100, HIGHEST}) {
            EDGE.refused("26 quill, softness", Edge::busy, x -> x.note(2, wrong), UNKNOWN);
            EDGE.refused("26 quill, softness, full", () -> noted(15), x -> x.note(-1, wrong), UNKNOWN);
            EDGE.refused("26 softness, full", () -> noted(15), x -> x.note(0, wrong), OUTSIDE);
        }
        EDGE.refused("26 quill, full", () -> noted(15), x -> x.note(2, 0), UNKNOWN);
    }

    private static LeftQuills bothFull() {
        LeftQuills x = worn(6);
        for (int i = 0; i < 15; i++) {
            x.note(0, 99);
        }
        return x;
    }

    private static void promise27HowMuchBothHad() {
        DUE.is("27 no office", new LeftQuills().tear(), 0);
        EDGE.onlyAnswers("27 nothing", () -> worn(0), LeftQuills::tear, 0);
        DUE.is("27 worn alone", worn(6).tear(), 6);
        DUE.is("27 the book alone", noted(15).tear(), 15);
        LeftQuills x = bothFull();
        DUE.is("27 both", x.tear(), 21);
        DUE.same("27 nothing else changed", Shown.of(x), Shown.of(worn(0)));
    }

    private static void promise27BothTakeAgain() {
        LeftQuills x = bothFull();
        x.tear();
        for (int n = 1; n <= 6; n++) {
            DUE.is("23 how much again", x.worn(0, 1, 1), n);
        }
        for (int n = 1; n <= 15; n++) {
            DUE.is("26 how many again", x.note(0, 1), n);
        }
        DUE.is("23 full again", x.worn(0, 1, 1), FULL);
        DUE.is("26 full again", x.note(0, 1), FULL);
        DUE.is("27 both again", x.tear(), 21);
    }

    private static void promise28NoneIfTheBookIsEmpty() {
        DUE.is("28 no office", new LeftQuills().judge(), NONE);
        EDGE.onlyAnswers("28 an empty book", () -> noted(0), LeftQuills::judge, NONE);
        EDGE.onlyAnswers("28 all are so", () -> noted(15), LeftQuills::judge, NONE);
    }

    private static void promise28TheFirstThatIsOtherwise() {
        for (int first = 0; first <= 14; first++) {
            LeftQuills x = noted(first);
            for (int i = first; i < 15; i++) {
                x.note(1, 1);
            }
            DUE.is("28 the first", x.judge(), first);
        }
        LeftQuills x = noted(15);
        x.write(1, 1, 1);
        DUE.is("28 now it is softer", x.judge(), 0);
        x.undo();
        DUE.is("28 undone", x.judge(), NONE);
    }

    private static void promise28SoftnessAtItsEnds() {
        LeftQuills x = Due.with("o1 1;q0 2 9 0 5;h0 9 5;");
        x.note(0, 0);
        DUE.is("28 0", x.judge(), NONE);
        x.write(0, 0, 40);
        DUE.is("28 99 is not 0", x.judge(), 0);
        x.tear();
        x.note(0, 99);
        DUE.is("28 99", x.judge(), NONE);
        x.note(0, 98);
        DUE.is("28 98 is not 99", x.judge(), 1);
    }
}
