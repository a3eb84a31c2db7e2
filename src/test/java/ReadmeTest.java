/** The example of README.md: its calls, with the answers that stand behind them there. */
public final class ReadmeTest implements Answers {
    public static void main(String[] args) {
        Due.run(ReadmeTest.class);
    }

    static void theExample(Due d) {
        SourcePositions x = new SourcePositions();
        d.dueCounts(x, 0, 1, 0);
        int logs = x.part(2);
        d.due("part(2)", logs, 0);
        d.due("row(logs, 7, 100, true)", x.row(logs, 7, 100, true), 1);
        d.due("row(logs, 8, 90, false)", x.row(logs, 8, 90, false), 2);
        d.due("row(logs, 7, 120, true)", x.row(logs, 7, 120, true), 3);
        d.due("row(logs, 9, 130, true)", x.row(logs, 9, 130, true), 4);
        d.due("give(logs, 0)", x.give(logs, 0), NONE);
        int mark = x.mark();
        d.due("mark()", mark, 0);
        d.dueReads(x, 0, 7, ASIDE);
        d.due("aside(0, 1)", x.aside(0, 1), 1);
        d.dueReads(x, 0, DOUBLE);
        d.due("lose(1, false)", x.lose(1, false), 1);
        d.dueReads(x, 0, LOST, 9, NONE);
        d.due("water()", x.water(), 130);
        d.due("restore(mark)", x.restore(mark), 1);
        d.dueReads(x, 0, 7);
        d.due("split(logs, 2)", x.split(logs, 2), 1);
        d.due("told(1, 4)", x.told(1, 4), NONE);
        d.due("scale(2)", x.scale(2), 2);
        d.due("told(0, 4)", x.told(0, 4), 0);
        d.due("told(1, 4)", x.told(1, 4), 1);
        d.dueReads(x, 1, DOUBLE, 9);
        d.due("start(100)", x.start(100), 2);
    }
}
