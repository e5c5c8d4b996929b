import java.util.List;

/** Promises 29 to 31 at their bounds: each sentence of the document that names one has a test of its own here. */
public final class EdgesImagesTest {
    private static final int NONE = Edge.NONE, UNKNOWN = Edge.UNKNOWN, OUTSIDE = Edge.OUTSIDE, NOT = Edge.NOT;
    private static final int LOWEST = Edge.LOWEST, HIGHEST = Edge.HIGHEST;
    private static final Due DUE = new Due();
    private static final Edge EDGE = new Edge(DUE);

    public static void main(String[] args) {
        promise29From0To2147483647();
        promise29WhatItWas();
        promise29StaysByOffice();
        promise30Images0And1();
        promise30NothingCanBeUndoneThen();
        promise30NothingElseChanges();
        promise30TheLatestKeptStays();
        promise30WithoutAnOffice();
        promise31Images0And1();
        promise31NotIfItWasNotKept();
        promise31UnknownAheadOfNot();
        promise31AllOfSection2AndTheSeed();
        promise31NothingCanBeUndoneThen();
        promise31WhatAnImageDoesNotKeep();
        promise31GoneByAnOffice();
        DUE.end();
    }

    private static LeftQuills bothKept() {
        LeftQuills x = Edge.inUse();
        x.keep(1);
        x.write(1, 1, 1);
        x.feed('o');
        return x;
    }

    private static void promise29From0To2147483647() {
        EDGE.bounds("29 seed", Edge::busy, LeftQuills::seed, 0, HIGHEST);
        EDGE.bounds("29 seed, no office", LeftQuills::new, LeftQuills::seed, 0, HIGHEST);
    }

    private static void promise29WhatItWas() {
        LeftQuills x = new LeftQuills();
        DUE.is("29 0 at first", x.seed(HIGHEST), 0);
        DUE.is("29 the greatest", x.seed(0), HIGHEST);
        DUE.is("29 0", x.seed(65536), 0);
        DUE.is("29 refused", x.seed(-1), OUTSIDE);
        DUE.is("29 as ahead of what was refused", x.seed(1), 65536);
    }

    private static void promise29StaysByOffice() {
        LeftQuills x = new LeftQuills();
        x.seed(HIGHEST);
        Due.office(x, Edge.TEXT);
        DUE.is("3 the seed stays", x.seed(HIGHEST - 1), HIGHEST);
        Due.office(x, "x");
        DUE.is("3 the seed stays by a fault", x.seed(HIGHEST - 2), HIGHEST - 1);
        x.office();
        DUE.is("3 the seed stays by an empty text", x.seed(0), HIGHEST - 2);
    }

    private static void promise30Images0And1() {
        EDGE.known("30 image", Edge::busy, LeftQuills::keep, 2);
        EDGE.known("30 image, no office", LeftQuills::new, LeftQuills::keep, 2);
        DUE.is("30 kept", Edge.busy().keep(0), 1);
        DUE.is("30 kept", Edge.busy().keep(1), 1);
    }

    private static void promise30NothingCanBeUndoneThen() {
        for (int i = 0; i <= 1; i++) {
            LeftQuills x = Edge.busy();
            DUE.is("30 two can be", x.told(12), 2);
            x.keep(i);
            DUE.is("30 none can be", x.told(12), 0);
            DUE.is("30 not undone", x.undo(), NOT);
            x.dry(0, 1);
            DUE.is("30 one again", x.undo(), 0);
        }
    }

    private static void promise30NothingElseChanges() {
        LeftQuills x = Edge.inUse();
        LeftQuills y = Edge.inUse();
        x.keep(1);
        x.goBack(1);
        y.undo();
        y.undo();
        y.write(0, 1, 2);
        y.broaden(0);
        y.keep(1);
        DUE.same("30 kept and gone back to", Shown.of(x), Shown.of(y));
    }

    private static void promise30TheLatestKeptStays() {
        LeftQuills x = Due.with(Edge.TEXT);
        for (int n = 1; n <= 5; n++) {
            x.write(0, 0, 1);
            x.seed(n);
            x.keep(0);
        }
        x.write(0, 0, 1);
        x.keep(1);
        x.goBack(0);
        DUE.is("30 image 0", x.told(7), 5);
        DUE.is("30 its seed", x.seed(0), 5);
        x.goBack(1);
        DUE.is("30 image 1", x.told(7), 6);
    }

    private static void promise30WithoutAnOffice() {
        LeftQuills x = new LeftQuills();
        x.seed(9);
        DUE.is("30 kept", x.keep(0), 1);
        x.seed(3);
        DUE.is("31 gone back to", x.goBack(0), 1);
        DUE.is("31 its seed", x.seed(9), 9);
        DUE.is("31 no office still", x.whet(), NOT);
        Due.office(x, Edge.TEXT);
        DUE.is("3 gone by an office", x.goBack(0), NOT);
    }

    private static void promise31Images0And1() {
        EDGE.known("31 image", EdgesImagesTest::bothKept, LeftQuills::goBack, 2);
        DUE.is("31 gone back to", bothKept().goBack(0), 1);
        DUE.is("31 gone back to", bothKept().goBack(1), 1);
    }

    private static void promise31NotIfItWasNotKept() {
        EDGE.refused("31 new, 0", LeftQuills::new, x -> x.goBack(0), NOT);
        EDGE.refused("31 new, 1", LeftQuills::new, x -> x.goBack(1), NOT);
        EDGE.refused("31 image 0 alone is kept", Edge::busy, x -> x.goBack(1), NOT);
        EDGE.refused("31 image 1 alone is kept", EdgesImagesTest::secondKept, x -> x.goBack(0), NOT);
    }

    private static LeftQuills secondKept() {
        LeftQuills x = Due.with(Edge.TEXT);
        x.keep(1);
        x.write(0, 0, 1);
        return x;
    }

    private static void promise31UnknownAheadOfNot() {
        for (int i : new int[] {LOWEST, -1, 2, HIGHEST}) {
            EDGE.refused("31 image " + i, LeftQuills::new, x -> x.goBack(i), UNKNOWN);
            EDGE.refused("31 image " + i + ", in use", Edge::busy, x -> x.goBack(i), UNKNOWN);
        }
    }

    /** Kept, much is done, gone back: as ahead of it, also by the second time. */
    private static void promise31AllOfSection2AndTheSeed() {
        LeftQuills x = Edge.inUse();
        x.keep(1);
        LeftQuills y = Edge.inUse();
        y.keep(1);
        List<String> due = Shown.of(y);
        for (int time = 0; time < 2; time++) {
            x.write(0, 0, 40);
            x.write(1, 1, 40);
            x.mend(0);
            x.broaden(1);
            x.whet();
            x.drift(60);
            x.goBack(1);
        }
        DUE.same("31 gone back", Shown.of(x), due);
    }

    private static void promise31NothingCanBeUndoneThen() {
        LeftQuills x = Edge.busy();
        DUE.is("31 two can be", x.told(12), 2);
        x.goBack(0);
        DUE.is("31 none can be", x.told(12), 0);
        DUE.is("31 not undone", x.undo(), NOT);
        x.whet();
        DUE.is("31 one again", x.undo(), 0);
    }

    private static void promise31WhatAnImageDoesNotKeep() {
        LeftQuills x = Due.with(Edge.TEXT);
        x.keep(0);
        x.worn(1, 1, 7);
        x.note(0, 99);
        Due.office(x, "x");
        Due.feed(x, "abc");
        x.goBack(0);
        DUE.is("31 worn stays", x.told(10), 1);
        DUE.is("31 whose", x.whose(), 2);
        DUE.is("31 the book stays", x.told(11), 1);
        DUE.is("31 wrong", x.judge(), 0);
        DUE.is("31 the text stays", x.told(4), 3);
        DUE.is("31 the fault stays", x.fault(), 0);
        x.tear();
        x.goBack(0);
        DUE.is("31 torn stays torn", x.told(10) + x.told(11), 0);
        DUE.is("31 nothing is wrong", x.judge(), NONE);
    }

    private static void promise31GoneByAnOffice() {
        LeftQuills x = bothKept();
        x.office();
        DUE.is("3 a fault leaves image 0", x.goBack(0), 1);
        DUE.is("3 a fault leaves image 1", x.goBack(1), 1);
        Due.office(x, Edge.TEXT);
        DUE.is("3 an office drops image 0", x.goBack(0), NOT);
        DUE.is("3 an office drops image 1", x.goBack(1), NOT);
        x.keep(0);
        x.office();
        DUE.is("3 an empty text drops it too", x.goBack(0), NOT);
    }
}
