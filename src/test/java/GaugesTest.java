/** Promises 7 and 8: gauges and the table. */
public final class GaugesTest {
    private static final Check CHECK = new Check();

    public static void main(String[] args) {
        gaugeTakesTheLeastArea();
        gaugeTakesTheLowestOfSeveral();
        gaugeOfTenRows();
        gaugePassesOverRowsThatWillNotDo();
        gaugeFollowsWhatIsToldAnew();
        gaugeIsNoneWithoutARow();
        gaugeIsNoneWithoutAWay();
        gaugeWithinOneNode();
        gaugeRefusesOtherWires();
        tableTellsWhetherARowWasNotTold();
        tableTellsWhetherARowWasToldOtherwise();
        tableIsOfOneRow();
        tableRefusesOtherRows();
        tableRefusesOtherAreas();
        tableRefusesOtherMilliamperes();
        tableRefusesOtherMicroohms();
        tableLooksAtTheRowFirst();
        tableRefusedTellsNothing();
        CHECK.end();
    }

    private static HarnessRows wireOf(long length) {
        HarnessRows x = new HarnessRows();
        x.connector(2);
        x.connector(2);
        x.bundle(0, 1, length);
        x.wire(0, 0, 1, 0);
        return x;
    }

    private static void gaugeTakesTheLeastArea() {
        CHECK.about("7: The ROW of the least area that will do for a WIRE");
        HarnessRows x = wireOf(10);
        x.table(5, 100, 1, 1);
        CHECK.same("one row", 5, x.gauge(0));
        x.table(7, 99, 1, 1);
        CHECK.same("less behind it", 7, x.gauge(0));
        x.table(2, 98, 1, 1);
        CHECK.same("less ahead of it", 2, x.gauge(0));
        x.table(0, 1_000_000, 1_000_000, 1);
        x.table(9, 99, 1_000_000, 1);
        CHECK.same("more ahead of it, and behind it", 2, x.gauge(0));
        x.table(8, 1, 1, 1);
        CHECK.same("the least that can be", 8, x.gauge(0));
    }

    private static void gaugeTakesTheLowestOfSeveral() {
        CHECK.about("7: of several the lowest");
        HarnessRows x = wireOf(10);
        x.table(9, 50, 1, 1);
        x.table(4, 50, 2, 1);
        CHECK.same("4 and 9", 4, x.gauge(0));
        x.table(6, 50, 3, 1);
        CHECK.same("4, 6 and 9", 4, x.gauge(0));
        x.table(0, 50, 1, 2);
        CHECK.same("0, 4, 6 and 9", 0, x.gauge(0));
    }

    private static void gaugeOfTenRows() {
        CHECK.about("7: The ROW of the least area: the TABLE is full");
        HarnessRows x = wireOf(10);
        for (int row = 0; row < 10; row++) {
            x.table(row, 100 - row, 100 - 10 * row, 1);
        }
        for (int row = 0; row < 10; row++) {
            x.load(0, 100 - 10 * row, 1_000_000);
            CHECK.same("the last with enough for " + (100 - 10 * row), row, x.gauge(0));
        }
        x.load(0, 101, 1_000_000);
        CHECK.same("none with enough for 101", -1, x.gauge(0));
    }

    private static void gaugePassesOverRowsThatWillNotDo() {
        CHECK.about("7: that will do for a WIRE");
        HarnessRows x = wireOf(1000);
        x.table(0, 1, 999, 1);
        x.table(1, 2, 1000, 1001);
        x.table(2, 3, 1000, 1000);
        x.table(3, 4, 1_000_000, 1);
        x.load(0, 1000, 1);
        CHECK.same("neither current nor drop too much", 2, x.gauge(0));
        x.load(0, 1000, 2);
        CHECK.same("more drop", 1, x.gauge(0));
        x.load(0, 999, 2);
        CHECK.same("less load", 0, x.gauge(0));
    }

    private static void gaugeFollowsWhatIsToldAnew() {
        CHECK.about("7: that will do: by the ROWS, loads and WAYS of now");
        HarnessRows x = wireOf(1000);
        x.table(0, 5, 1000, 1000);
        x.table(1, 6, 1000, 500);
        x.load(0, 1000, 1);
        CHECK.same("row 0", 0, x.gauge(0));
        x.slack(1, 1000);
        CHECK.same("a slack", 1, x.gauge(0));
        x.slack(0, 1);
        x.table(0, 7, 1000, 1000);
        CHECK.same("row 0 has more area", 1, x.gauge(0));
        x.table(1, 6, 999, 500);
        CHECK.same("row 1 has less current", 0, x.gauge(0));
    }

    private static void gaugeIsNoneWithoutARow() {
        CHECK.about("7: NONE, when there is none");
        HarnessRows x = wireOf(10);
        CHECK.same("none is told", -1, x.gauge(0));
        x.table(3, 1, 5, 1);
        x.load(0, 6, 1_000_000);
        CHECK.same("none will do", -1, x.gauge(0));
        x.load(0, 5, 1_000_000);
        CHECK.same("one will do", 3, x.gauge(0));
    }

    private static void gaugeIsNoneWithoutAWay() {
        CHECK.about("7: NONE, when there is no WAY");
        HarnessRows x = new HarnessRows();
        x.connector(1);
        x.connector(1);
        x.wire(0, 0, 1, 0);
        x.table(0, 1, 1_000_000, 1);
        CHECK.same("no way", -1, x.gauge(0));
        x.slack(1, 1);
        CHECK.same("no way, with slack", -1, x.gauge(0));
        x.bundle(0, 1, 1);
        CHECK.same("a way", 0, x.gauge(0));
    }

    private static void gaugeWithinOneNode() {
        CHECK.about("7: a WAY of length 0 is one");
        HarnessRows x = new HarnessRows();
        x.connector(2);
        x.wire(0, 0, 0, 1);
        CHECK.same("no row", -1, x.gauge(0));
        x.table(9, 1, 1, 1_000_000);
        x.load(0, 1, 0);
        CHECK.same("no drop", 9, x.gauge(0));
        x.load(0, 2, 0);
        CHECK.same("too much current", -1, x.gauge(0));
    }

    private static void gaugeRefusesOtherWires() {
        CHECK.about("7: IndexOutOfBoundsException, when there is no such WIRE");
        HarnessRows x = wireOf(10);
        x.table(0, 1, 1, 1);
        for (int wrong : new int[] {-1, 1, 24, 32, Integer.MIN_VALUE, Integer.MAX_VALUE}) {
            CHECK.throwsIndex("gauge(" + wrong + ")", () -> x.gauge(wrong));
        }
        CHECK.same("the last one", 0, x.gauge(0));
    }

    private static void tableTellsWhetherARowWasNotTold() {
        CHECK.about("8: whether it was told otherwise, or not: it was not told");
        for (int row = 0; row < 10; row++) {
            HarnessRows x = new HarnessRows();
            CHECK.yes("the least, row " + row, x.table(row, 1, 1, 1));
            CHECK.no("it is told, row " + row, x.table(row, 1, 1, 1));
        }
        HarnessRows y = new HarnessRows();
        CHECK.yes("the most", y.table(0, 1_000_000, 1_000_000, 1_000_000));
        CHECK.no("it is told", y.table(0, 1_000_000, 1_000_000, 1_000_000));
    }

    private static void tableTellsWhetherARowWasToldOtherwise() {
        CHECK.about("8: whether it was told otherwise, or not: it was told");
        HarnessRows x = new HarnessRows();
        x.table(4, 5, 6, 7);
        CHECK.no("just so", x.table(4, 5, 6, 7));
        CHECK.yes("another area", x.table(4, 6, 6, 7));
        CHECK.yes("other milliamperes", x.table(4, 6, 7, 7));
        CHECK.yes("other microohms", x.table(4, 6, 7, 8));
        CHECK.no("just so", x.table(4, 6, 7, 8));
        CHECK.yes("as it was ahead of it", x.table(4, 5, 6, 7));
    }

    private static void tableIsOfOneRow() {
        CHECK.about("8: A ROW of the TABLE: no other one");
        HarnessRows x = new HarnessRows();
        x.table(0, 5, 6, 7);
        CHECK.yes("row 1 is not told", x.table(1, 5, 6, 7));
        x.table(1, 1, 1, 1);
        CHECK.no("row 0 is as it was told", x.table(0, 5, 6, 7));
    }

    private static void tableRefusesOtherRows() {
        CHECK.about("8: IndexOutOfBoundsException, when there is no such ROW");
        HarnessRows x = new HarnessRows();
        for (int wrong : new int[] {-1, 10, Integer.MIN_VALUE, Integer.MAX_VALUE}) {
            CHECK.throwsIndex("table(" + wrong + ", 1, 1, 1)", () -> Check.number(x.table(wrong, 1, 1, 1)));
        }
        CHECK.yes("row 0", x.table(0, 1, 1, 1));
        CHECK.yes("row 9", x.table(9, 1, 1, 1));
    }

    private static void tableRefusesOtherAreas() {
        CHECK.about("8: IllegalArgumentException, when a number is not so: the area");
        for (long wrong : wrongNumbers()) {
            HarnessRows x = new HarnessRows();
            CHECK.throwsArgument("area " + wrong, () -> Check.number(x.table(0, wrong, 1, 1)));
        }
        CHECK.yes("area 1000000", new HarnessRows().table(0, 1_000_000, 1, 1));
    }

    private static void tableRefusesOtherMilliamperes() {
        CHECK.about("8: IllegalArgumentException, when a number is not so: the milliamperes");
        for (long wrong : wrongNumbers()) {
            HarnessRows x = new HarnessRows();
            CHECK.throwsArgument("milliamperes " + wrong, () -> Check.number(x.table(0, 1, wrong, 1)));
        }
        CHECK.yes("milliamperes 1000000", new HarnessRows().table(0, 1, 1_000_000, 1));
    }

    private static void tableRefusesOtherMicroohms() {
        CHECK.about("8: IllegalArgumentException, when a number is not so: the microohms");
        for (long wrong : wrongNumbers()) {
            HarnessRows x = new HarnessRows();
            CHECK.throwsArgument("microohms " + wrong, () -> Check.number(x.table(0, 1, 1, wrong)));
        }
        CHECK.yes("microohms 1000000", new HarnessRows().table(0, 1, 1, 1_000_000));
    }

    private static long[] wrongNumbers() {
        return new long[] {0, 1_000_001, -1, (1L << 32) + 1, Long.MIN_VALUE, Long.MAX_VALUE};
    }

    private static void tableLooksAtTheRowFirst() {
        CHECK.about("8: both exceptions: the ROW first");
        HarnessRows x = new HarnessRows();
        CHECK.throwsIndex("table(10, 0, 1, 1)", () -> Check.number(x.table(10, 0, 1, 1)));
        CHECK.throwsIndex("table(-1, 1, 0, 1)", () -> Check.number(x.table(-1, 1, 0, 1)));
        CHECK.throwsIndex("table(10, 1, 1, 0)", () -> Check.number(x.table(10, 1, 1, 0)));
    }

    private static void tableRefusedTellsNothing() {
        CHECK.about("8: a ROW that is refused is not told");
        HarnessRows x = wireOf(1);
        CHECK.throwsArgument("table(0, 1, 1, 0)", () -> Check.number(x.table(0, 1, 1, 0)));
        CHECK.same("it is still not told", -1, x.gauge(0));
        CHECK.yes("it was not told", x.table(0, 1, 1, 1));
        CHECK.throwsArgument("table(0, 2, 2, 0)", () -> Check.number(x.table(0, 2, 2, 0)));
        CHECK.throwsArgument("table(0, 2, 0, 2)", () -> Check.number(x.table(0, 2, 0, 2)));
        CHECK.throwsArgument("table(0, 0, 2, 2)", () -> Check.number(x.table(0, 0, 2, 2)));
        CHECK.no("it is as it was told", x.table(0, 1, 1, 1));
    }
}
