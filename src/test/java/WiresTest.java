/** Promises 5, 6, 9, 10 and 15: wires, loads, lengths, slack, colours. */
public final class WiresTest {
    private static final Check CHECK = new Check();

    public static void main(String[] args) {
        aCavityHasOneWire();
        twentyFourWiresAtMost();
        wireRefusesWrongInputs();
        loadTellsWhetherOneWasAnother();
        loadRefusesWrongInputs();
        lengthFollowsTheWay();
        lengthOverManyBundles();
        slackRoundsUp();
        slackTellsWhetherOneWasAnother();
        slackRefusesWrongInputs();
        coloursAreTheLowestFree();
        twentyFourColours();
        CHECK.end();
    }

    private static void aCavityHasOneWire() {
        HarnessRows x = new HarnessRows();
        x.connector(3);
        x.connector(3);
        CHECK.same("wire(0, 0, 1, 0)", 0, x.wire(0, 0, 1, 0));
        CHECK.same("first end is taken at its first end", -1, x.wire(0, 0, 1, 1));
        CHECK.same("first end is taken at its other end", -1, x.wire(1, 0, 1, 1));
        CHECK.same("other end is taken at its first end", -1, x.wire(1, 1, 0, 0));
        CHECK.same("other end is taken at its other end", -1, x.wire(0, 1, 1, 0));
        CHECK.same("both are one", -1, x.wire(0, 1, 0, 1));
        CHECK.same("within one connector", 1, x.wire(0, 1, 0, 2));
        CHECK.same("what was refused takes nothing", 2, x.wire(1, 1, 1, 2));
    }

    private static void twentyFourWiresAtMost() {
        HarnessRows x = fourConnectors();
        for (int i = 0; i < 24; i++) {
            CHECK.same("wire " + i, i, wireNumber(x, i));
        }
        CHECK.same("a 25th wire", -1, wireNumber(x, 24));
        CHECK.throwsIndex("wire(4, 0, 0, 15) with 24", () -> x.wire(4, 0, 0, 15));
        CHECK.throwsIndex("length(24)", () -> x.length(24));
        CHECK.same("length(23)", -1, x.length(23));
    }

    private static HarnessRows fourConnectors() {
        HarnessRows x = new HarnessRows();
        for (int i = 0; i < 4; i++) {
            x.connector(16);
        }
        return x;
    }

    private static int wireNumber(HarnessRows x, int i) {
        return i < 16 ? x.wire(0, i, 1, i) : x.wire(2, i - 16, 3, i - 16);
    }

    private static void wireRefusesWrongInputs() {
        HarnessRows x = new HarnessRows();
        x.connector(2);
        x.node();
        CHECK.throwsIndex("wire(-1, 0, 0, 0)", () -> x.wire(-1, 0, 0, 0));
        CHECK.throwsIndex("wire(2, 0, 0, 0)", () -> x.wire(2, 0, 0, 0));
        CHECK.throwsIndex("wire(0, 0, -1, 0)", () -> x.wire(0, 0, -1, 0));
        CHECK.throwsIndex("wire(0, 0, 2, 0)", () -> x.wire(0, 0, 2, 0));
        CHECK.throwsIndex("wire(0, -1, 0, 0)", () -> x.wire(0, -1, 0, 0));
        CHECK.throwsIndex("wire(0, 2, 0, 0)", () -> x.wire(0, 2, 0, 0));
        CHECK.throwsIndex("wire(0, 0, 0, -1)", () -> x.wire(0, 0, 0, -1));
        CHECK.throwsIndex("wire(0, 0, 0, 2)", () -> x.wire(0, 0, 0, 2));
        CHECK.throwsIndex("wire(1, 0, 0, 0)", () -> x.wire(1, 0, 0, 0));
        CHECK.throwsIndex("wire(0, 0, 1, 0)", () -> x.wire(0, 0, 1, 0));
        CHECK.same("wire(0, 0, 0, 1)", 0, x.wire(0, 0, 0, 1));
        CHECK.throwsIndex("wire(0, 0, 0, 2) with a taken one", () -> x.wire(0, 0, 0, 2));
    }

    private static void loadTellsWhetherOneWasAnother() {
        HarnessRows x = oneWire();
        CHECK.no("as at first", x.load(0, 0, 1_000_000));
        CHECK.yes("another load", x.load(0, 1, 1_000_000));
        CHECK.yes("another drop", x.load(0, 1, 999_999));
        CHECK.no("the same", x.load(0, 1, 999_999));
        CHECK.yes("both", x.load(0, 1_000_000, 0));
        CHECK.no("both again", x.load(0, 1_000_000, 0));
        x.wire(0, 2, 0, 3);
        CHECK.no("another wire", x.load(1, 0, 1_000_000));
    }

    private static HarnessRows oneWire() {
        HarnessRows x = new HarnessRows();
        x.connector(4);
        x.wire(0, 0, 0, 1);
        return x;
    }

    private static void loadRefusesWrongInputs() {
        HarnessRows x = oneWire();
        CHECK.throwsIndex("load(1, 0, 0)", () -> Check.number(x.load(1, 0, 0)));
        CHECK.throwsIndex("load(-1, 0, 0)", () -> Check.number(x.load(-1, 0, 0)));
        CHECK.throwsIndex("load(1, -1, 0)", () -> Check.number(x.load(1, -1, 0)));
        CHECK.throwsArgument("load(0, -1, 0)", () -> Check.number(x.load(0, -1, 0)));
        CHECK.throwsArgument("load(0, 1000001, 0)", () -> Check.number(x.load(0, 1_000_001, 0)));
        CHECK.throwsArgument("load(0, 5, -1)", () -> Check.number(x.load(0, 5, -1)));
        CHECK.throwsArgument("load(0, 5, 1000001)", () -> Check.number(x.load(0, 5, 1_000_001)));
        CHECK.no("what was refused changes nothing", x.load(0, 0, 1_000_000));
    }

    private static void lengthFollowsTheWay() {
        HarnessRows x = new HarnessRows();
        x.connector(3);
        x.node();
        x.connector(3);
        x.connector(3);
        x.wire(0, 0, 2, 0);
        x.wire(0, 1, 0, 2);
        x.wire(2, 1, 3, 0);
        CHECK.same("not joined", -1, x.length(0));
        CHECK.same("within one node", 0, x.length(1));
        x.bundle(0, 1, 100);
        CHECK.same("half joined", -1, x.length(0));
        x.bundle(2, 1, 23);
        CHECK.same("joined", 123, x.length(0));
        x.bundle(3, 0, 1000);
        CHECK.same("over three", 1123, x.length(2));
        CHECK.same("as before", 123, x.length(0));
        CHECK.throwsIndex("length(3)", () -> x.length(3));
        CHECK.throwsIndex("length(-1)", () -> x.length(-1));
    }

    private static void lengthOverManyBundles() {
        HarnessRows x = new HarnessRows();
        for (int i = 0; i < 16; i++) {
            x.connector(1);
        }
        // Joins pairs, then pairs of pairs, so that whole trees are joined by inner nodes.
        for (int step = 1; step < 16; step *= 2) {
            for (int i = 0; i + step < 16; i += 2 * step) {
                x.bundle(i + step - 1, i + step, 100_000);
            }
        }
        x.wire(0, 0, 15, 0);
        CHECK.same("15 bundles in a row", 1_500_000, x.length(0));
        x.slack(1000, 1000);
        CHECK.same("with all slack", 3_000_000, x.length(0));
    }

    private static void slackRoundsUp() {
        HarnessRows x = new HarnessRows();
        x.connector(2);
        x.connector(2);
        x.bundle(0, 1, 10);
        x.wire(0, 0, 1, 0);
        x.wire(0, 1, 1, 1);
        CHECK.same("no slack at first", 10, x.length(0));
        x.slack(1, 10);
        CHECK.same("10 and 1", 11, x.length(0));
        x.slack(1, 11);
        CHECK.same("10 and 10 / 11", 11, x.length(0));
        x.slack(1, 9);
        CHECK.same("10 and 10 / 9", 12, x.length(0));
        x.slack(1, 1000);
        CHECK.same("10 and 10 / 1000", 11, x.length(0));
        x.slack(999, 1000);
        CHECK.same("10 and 9990 / 1000", 20, x.length(1));
        x.slack(0, 7);
        CHECK.same("none again", 10, x.length(1));
    }

    private static void slackTellsWhetherOneWasAnother() {
        HarnessRows x = new HarnessRows();
        CHECK.no("slack(0, 1)", x.slack(0, 1));
        CHECK.yes("another below", x.slack(0, 2));
        CHECK.yes("another above", x.slack(1, 2));
        CHECK.no("the same", x.slack(1, 2));
        CHECK.yes("the same share in other numbers", x.slack(2, 4));
        CHECK.yes("slack(1000, 1000)", x.slack(1000, 1000));
    }

    private static void slackRefusesWrongInputs() {
        HarnessRows x = new HarnessRows();
        CHECK.throwsArgument("slack(0, 0)", () -> Check.number(x.slack(0, 0)));
        CHECK.throwsArgument("slack(0, -1)", () -> Check.number(x.slack(0, -1)));
        CHECK.throwsArgument("slack(-2, -1)", () -> Check.number(x.slack(-2, -1)));
        CHECK.throwsArgument("slack(0, 1001)", () -> Check.number(x.slack(0, 1001)));
        CHECK.throwsArgument("slack(-1, 5)", () -> Check.number(x.slack(-1, 5)));
        CHECK.throwsArgument("slack(6, 5)", () -> Check.number(x.slack(6, 5)));
        CHECK.no("what was refused changes nothing", x.slack(0, 1));
        CHECK.yes("slack(5, 5)", x.slack(5, 5));
    }

    private static void coloursAreTheLowestFree() {
        HarnessRows x = new HarnessRows();
        for (int i = 0; i < 5; i++) {
            x.connector(4);
        }
        int[][] wires = {{0, 0, 1, 0}, {1, 1, 2, 0}, {2, 1, 3, 0}, {0, 1, 3, 1}, {4, 0, 4, 1}, {4, 2, 0, 2}, {3, 2, 2, 2}};
        int[] colours = {0, 1, 0, 1, 0, 2, 2};
        for (int i = 0; i < wires.length; i++) {
            x.wire(wires[i][0], wires[i][1], wires[i][2], wires[i][3]);
            CHECK.same("new colour(" + i + ")", colours[i], x.colour(i));
        }
        for (int i = 0; i < wires.length; i++) {
            CHECK.same("colour(" + i + ")", colours[i], x.colour(i));
        }
        CHECK.throwsIndex("colour(7)", () -> x.colour(7));
        CHECK.throwsIndex("colour(-1)", () -> x.colour(-1));
    }

    private static void twentyFourColours() {
        HarnessRows x = new HarnessRows();
        x.connector(16);
        x.connector(16);
        x.connector(16);
        for (int i = 0; i < 8; i++) {
            x.wire(0, i, 1, i);
            x.wire(1, i + 8, 2, i);
            x.wire(2, i + 8, 0, i + 8);
        }
        for (int i = 0; i < 24; i++) {
            CHECK.same("colour(" + i + ") of 24", i, x.colour(i));
        }
    }
}
