/** Promise 2, part(): the ends of SHARE, and twelve PARTS at most. */
public final class Promise02PartTest implements Answers {
    public static void main(String[] args) {
        Due.run(Promise02PartTest.class);
    }

    private static void twelve(SourcePositions x) {
        for (int i = 0; i < 12; i++) {
            x.part(1);
        }
    }

    static void shareOneIsTheLeast(Due d) {
        SourcePositions x = new SourcePositions();
        d.due("part(0)", x.part(0), OUTSIDE);
        d.due("part(-1)", x.part(-1), OUTSIDE);
        d.due("part(1)", x.part(1), 0);
        d.due("told(0, 3)", x.told(0, 3), 1);
    }

    static void shareNineIsTheGreatest(Due d) {
        SourcePositions x = new SourcePositions();
        d.due("part(10)", x.part(10), OUTSIDE);
        d.due("part(9)", x.part(9), 0);
        d.due("told(0, 3)", x.told(0, 3), 9);
    }

    static void sharesBetweenAreTaken(Due d) {
        SourcePositions x = new SourcePositions();
        for (int share = 1; share <= 9; share++) {
            d.due("part(" + share + ")", x.part(share), share - 1);
            d.due("told(" + (share - 1) + ", 3)", x.told(share - 1, 3), share);
        }
    }

    static void sharesFarOffAreOutside(Due d) {
        SourcePositions x = new SourcePositions();
        for (int share : FAR) {
            d.due("part(" + share + ")", x.part(share), OUTSIDE);
        }
        d.due("count(0)", x.count(0), 0);
    }

    static void aPartStandsAtItsBeginning(Due d) {
        SourcePositions x = new SourcePositions();
        States.busy(x);
        d.due("part(7)", x.part(7), 6);
        d.dueTold(x, 6, 0, -1, 0, 7, NONE, 0, 0, 0, 0, NONE);
    }

    static void theTwelfthIsTheLast(Due d) {
        SourcePositions x = new SourcePositions();
        for (int i = 0; i < 12; i++) {
            d.due("part(1)", x.part(1), i);
        }
        d.due("part(1), the thirteenth", x.part(1), FULL);
        d.due("part(9), the thirteenth", x.part(9), FULL);
        d.due("count(0)", x.count(0), 12);
        d.due("told(11, 3)", x.told(11, 3), 1);
        d.due("told(12, 3)", x.told(12, 3), UNKNOWN);
    }

    static void outsideComesAheadOfFull(Due d) {
        SourcePositions x = new SourcePositions();
        twelve(x);
        d.due("part(0)", x.part(0), OUTSIDE);
        d.due("part(10)", x.part(10), OUTSIDE);
        for (int share : FAR) {
            d.due("part(" + share + ")", x.part(share), OUTSIDE);
        }
    }

    static void partsMadeBySplitTakeRoom(Due d) {
        SourcePositions x = new SourcePositions();
        for (int i = 0; i < 10; i++) {
            x.part(1);
        }
        States.rows(x, 0, 2, 0, 0);
        d.due("split(0, 1)", x.split(0, 1), 10);
        d.due("part(1)", x.part(1), 11);
        d.due("part(1)", x.part(1), FULL);
    }

    static void partsThatAreDoneTakeRoom(Due d) {
        SourcePositions x = new SourcePositions();
        twelve(x);
        for (int part = 0; part < 12; part++) {
            x.end(part);
        }
        d.due("count(6)", x.count(6), 12);
        d.due("part(1)", x.part(1), FULL);
    }

    static void goingBackDoesNotMakeRoom(Due d) {
        SourcePositions x = new SourcePositions();
        x.mark();
        twelve(x);
        x.restore(0);
        x.start(0);
        d.due("part(1)", x.part(1), FULL);
    }

    static void aRefusedCallChangesNothing(Due d) {
        int[] outside = {0, 10, -1};
        for (int share : outside) {
            Twins.refused(d, "part(" + share + ")", States::fresh, x -> x.part(share), OUTSIDE);
            Twins.refused(d, "part(" + share + ")", States::busy, x -> x.part(share), OUTSIDE);
            Twins.refused(d, "part(" + share + ") when full", States::full, x -> x.part(share), OUTSIDE);
        }
        for (int share : FAR) {
            Twins.refused(d, "part(" + share + ")", States::busy, x -> x.part(share), OUTSIDE);
        }
        Twins.refused(d, "part(1)", States::full, x -> x.part(1), FULL);
        Twins.refused(d, "part(9)", States::full, x -> x.part(9), FULL);
        Twins.refused(d, "part(4)", States::busyWithTwelveParts, x -> x.part(4), FULL);
        Twins.refused(d, "part(0)", States::busyWithTwelveParts, x -> x.part(0), OUTSIDE);
    }
}
