/** Promises 7 and 8: gauges and the table. */
public final class GaugesTest {
    private static final Check CHECK = new Check();

    public static void main(String[] args) {
        tableTellsWhetherARowWasOtherwise();
        tableRefusesWrongInputs();
        gaugeTakesTheLeastArea();
        gaugeLooksAtTheCurrent();
        gaugeLooksAtTheDrop();
        gaugeLooksAtTheLastDigitOfTheDrop();
        gaugeCountsTheSlack();
        gaugeOfTheLargestNumbers();
        gaugeWithoutAWay();
        CHECK.end();
    }

    private static HarnessRows wireOf(long length) {
        HarnessRows x = new HarnessRows();
        x.connector(2);
        x.connector(2);
        x.bundle(0, 1, length);
        x.wire(0, 0, 1, 0);
        return x;
    }

    private static void tableTellsWhetherARowWasOtherwise() {
        HarnessRows x = new HarnessRows();
        CHECK.yes("row 0 was not told", x.table(0, 1, 1, 1));
        CHECK.no("row 0 was told so", x.table(0, 1, 1, 1));
        CHECK.yes("another area", x.table(0, 2, 1, 1));
        CHECK.yes("other milliamperes", x.table(0, 2, 2, 1));
        CHECK.yes("other microohms", x.table(0, 2, 2, 2));
        CHECK.no("the same", x.table(0, 2, 2, 2));
        CHECK.yes("row 9 was not told", x.table(9, 1_000_000, 1_000_000, 1_000_000));
        CHECK.no("row 9 was told so", x.table(9, 1_000_000, 1_000_000, 1_000_000));
    }

    private static void tableRefusesWrongInputs() {
        HarnessRows x = wireOf(1);
        CHECK.throwsIndex("table(-1, ..)", () -> Check.number(x.table(-1, 1, 1, 1)));
        CHECK.throwsIndex("table(10, ..)", () -> Check.number(x.table(10, 1, 1, 1)));
        CHECK.throwsIndex("table(10, 0, ..)", () -> Check.number(x.table(10, 0, 1, 1)));
        CHECK.throwsArgument("area 0", () -> Check.number(x.table(0, 0, 1, 1)));
        CHECK.throwsArgument("area 1000001", () -> Check.number(x.table(0, 1_000_001, 1, 1)));
        CHECK.throwsArgument("milliamperes 0", () -> Check.number(x.table(0, 1, 0, 1)));
        CHECK.throwsArgument("milliamperes 1000001", () -> Check.number(x.table(0, 1, 1_000_001, 1)));
        CHECK.throwsArgument("microohms 0", () -> Check.number(x.table(0, 1, 1, 0)));
        CHECK.throwsArgument("microohms 1000001", () -> Check.number(x.table(0, 1, 1, 1_000_001)));
        CHECK.throwsArgument("microohms MIN", () -> Check.number(x.table(0, 1, 1, Long.MIN_VALUE)));
        CHECK.same("what was refused is not told", -1, x.gauge(0));
    }

    private static void gaugeTakesTheLeastArea() {
        HarnessRows x = wireOf(10);
        CHECK.same("no row", -1, x.gauge(0));
        x.table(7, 1_000_000, 1, 1);
        CHECK.same("one row", 7, x.gauge(0));
        x.table(8, 50, 1, 1);
        CHECK.same("a row of less area behind", 8, x.gauge(0));
        x.table(3, 50, 1, 1);
        CHECK.same("of several the lowest", 3, x.gauge(0));
        x.table(1, 51, 1, 1);
        CHECK.same("a row of more area ahead", 3, x.gauge(0));
        x.table(3, 52, 1, 1);
        CHECK.same("a row told anew", 8, x.gauge(0));
        CHECK.throwsIndex("gauge(1)", () -> x.gauge(1));
        CHECK.throwsIndex("gauge(-1)", () -> x.gauge(-1));
    }

    private static void gaugeLooksAtTheCurrent() {
        HarnessRows x = wireOf(10);
        x.table(0, 1, 5, 1);
        x.table(1, 2, 6, 1);
        x.load(0, 5, 1_000_000);
        CHECK.same("a load of 5", 0, x.gauge(0));
        x.load(0, 6, 1_000_000);
        CHECK.same("a load of 6", 1, x.gauge(0));
        x.load(0, 7, 1_000_000);
        CHECK.same("a load of 7", -1, x.gauge(0));
    }

    private static void gaugeLooksAtTheDrop() {
        HarnessRows x = wireOf(1000);
        x.table(0, 1, 1000, 2000);
        x.table(1, 2, 1000, 1000);
        x.load(0, 1000, 2);
        CHECK.same("1000 * 2000 * 1000 is 2 * 10^9", 0, x.gauge(0));
        x.load(0, 1000, 1);
        CHECK.same("1000 * 1000 * 1000 is 10^9", 1, x.gauge(0));
        x.table(1, 2, 1000, 1001);
        CHECK.same("one microohm more", -1, x.gauge(0));
        x.load(0, 0, 0);
        CHECK.same("no load, no drop", 0, x.gauge(0));
    }

    private static void gaugeLooksAtTheLastDigitOfTheDrop() {
        HarnessRows x = wireOf(19);
        x.load(0, 52_579, 1);
        x.table(0, 1, 1_000_000, 1001);
        CHECK.same("52579 * 1001 * 19 is 10^9 + 1", -1, x.gauge(0));
        x.table(0, 1, 1_000_000, 1000);
        CHECK.same("one microohm less", 0, x.gauge(0));
    }

    private static void gaugeCountsTheSlack() {
        HarnessRows x = wireOf(1000);
        x.table(0, 1, 1000, 1000);
        x.load(0, 1000, 1);
        CHECK.same("just so", 0, x.gauge(0));
        x.slack(1, 1000);
        CHECK.same("one longer", -1, x.gauge(0));
    }

    private static void gaugeOfTheLargestNumbers() {
        HarnessRows x = new HarnessRows();
        for (int i = 0; i < 16; i++) {
            x.connector(1);
        }
        for (int i = 1; i < 16; i++) {
            x.bundle(i - 1, i, 100_000);
        }
        x.wire(0, 0, 15, 0);
        x.slack(1, 1);
        x.table(4, 1, 1_000_000, 1_000_000);
        x.load(0, 1_000_000, 1_000_000);
        CHECK.same("3 * 10^18 is above 10^15", -1, x.gauge(0));
        x.table(4, 1, 1_000_000, 333);
        CHECK.same("999 * 10^12 is not", 4, x.gauge(0));
        x.table(4, 1, 1_000_000, 334);
        CHECK.same("1002 * 10^12 is", -1, x.gauge(0));
    }

    private static void gaugeWithoutAWay() {
        HarnessRows x = new HarnessRows();
        x.connector(3);
        x.connector(1);
        x.wire(0, 0, 1, 0);
        x.wire(0, 1, 0, 2);
        x.table(0, 1, 1, 1);
        CHECK.same("no way", -1, x.gauge(0));
        x.load(1, 1, 0);
        CHECK.same("a way of length 0", 0, x.gauge(1));
        x.bundle(0, 1, 1);
        CHECK.same("a way", 0, x.gauge(0));
    }
}
