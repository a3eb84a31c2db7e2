/** Promise 15, given(): the ends of NUMBER, and what makes one GIVEN. */
public final class Promise15GivenTest implements Answers {
    public static void main(String[] args) {
        Due.run(Promise15GivenTest.class);
    }

    static void noughtIsTheLeast(Due d) {
        SourcePositions x = new SourcePositions();
        x.part(1);
        x.row(0, 0, 0, true);
        x.give(0, 0);
        d.due("given(-1)", x.given(-1), OUTSIDE);
        d.due("given(0)", x.given(0), 0);
        x.read(0);
        d.due("given(0)", x.given(0), 1);
        d.due("given(1)", x.given(1), 0);
        d.due("given(255)", x.given(255), 0);
        d.due("given(-1)", x.given(-1), OUTSIDE);
    }

    static void twoHundredFiftyFiveIsTheGreatest(Due d) {
        SourcePositions x = new SourcePositions();
        x.part(1);
        x.row(0, 255, 0, true);
        x.give(0, 0);
        d.due("given(256)", x.given(256), OUTSIDE);
        d.due("given(255)", x.given(255), 0);
        x.read(0);
        d.due("given(255)", x.given(255), 1);
        d.due("given(254)", x.given(254), 0);
        d.due("given(0)", x.given(0), 0);
        d.due("given(256)", x.given(256), OUTSIDE);
    }

    static void numbersFarOff(Due d) {
        SourcePositions x = new SourcePositions();
        for (int far : FAR) {
            d.due("given(" + far + ")", x.given(far), OUTSIDE);
        }
    }

    static void aRowThatWasNotReadGivesNothing(Due d) {
        SourcePositions x = new SourcePositions();
        States.onePart(x, 2);
        x.read(0);
        d.due("given(0)", x.given(0), 1);
        d.due("given(1)", x.given(1), 0);
    }

    static void lostGivesNothing(Due d) {
        SourcePositions x = new SourcePositions();
        States.onePart(x, 1);
        x.lose(1, false);
        x.read(0);
        d.due("given(0)", x.given(0), 0);
    }

    static void asideGivesNothing(Due d) {
        SourcePositions x = new SourcePositions();
        x.part(1);
        x.row(0, 8, 8, false);
        x.row(0, 8, 8, true);
        x.give(0, 0);
        d.dueReads(x, 0, ASIDE);
        d.due("given(8)", x.given(8), 0);
        d.dueReads(x, 0, 8);
        d.due("given(8)", x.given(8), 1);
    }

    static void twiceGivesAtOnce(Due d) {
        SourcePositions x = new SourcePositions();
        States.onePart(x, 1);
        x.lose(1, true);
        x.read(0);
        d.due("given(0)", x.given(0), 1);
        d.due("told(0, 0)", x.told(0, 0), 0);
    }

    static void doubleLeavesItGiven(Due d) {
        SourcePositions x = new SourcePositions();
        States.onePart(x, 1);
        x.row(0, 0, 0, true);
        d.dueReads(x, 0, 0, DOUBLE);
        d.due("given(0)", x.given(0), 1);
        d.due("count(4)", x.count(4), 1);
    }

    static void theQuestionChangesNothing(Due d) {
        int[] outside = {-1, 256};
        for (int number : outside) {
            Twins.refused(d, "given(" + number + ")", States::fresh, x -> x.given(number), OUTSIDE);
            Twins.refused(d, "given(" + number + ")", States::busy, x -> x.given(number), OUTSIDE);
        }
        for (int far : FAR) {
            Twins.refused(d, "given(" + far + ")", States::busy, x -> x.given(far), OUTSIDE);
        }
        Twins.refused(d, "given(0)", States::busy, x -> x.given(0), 0);
        Twins.refused(d, "given(20)", States::busy, x -> x.given(20), 1);
    }
}
