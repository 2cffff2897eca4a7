/** Promises 5, 6, 9, 10 and 15: wires, loads, lengths, slack, colours. */
public final class WiresTest {
    private static final Check CHECK = new Check();
    private static final int[] NO_WIRES = {-1, 2, 24, 32, Integer.MIN_VALUE, Integer.MAX_VALUE};

    public static void main(String[] args) {
        wireIsNumbered();
        wireOfATakenCavityIsNone();
        wireOfOneCavityIsNone();
        wireIsNoneWithTwentyFour();
        wireThatIsNoneTakesNothing();
        wireRefusesOtherNodes();
        wireRefusesOtherCavities();
        wireRefusesPlainNodes();
        wireRefusedTakesNothing();
        wireThrowsAheadOfNone();
        loadTellsWhetherOneWasAnother();
        loadIsOfOneWire();
        loadHoldsBothEnds();
        loadRefusesOtherWires();
        loadRefusesOtherMilliamperes();
        loadRefusesOtherDrops();
        loadLooksAtTheWireFirst();
        loadRefusedChangesNothing();
        lengthWithSlack();
        lengthIsNoneWithoutAWay();
        lengthRefusesOtherWires();
        slackTellsWhetherOneWasAnother();
        slackBelow();
        slackAbove();
        slackRefusedChangesNothing();
        colourIsTheLowestFree();
        colourRefusesOtherWires();
        CHECK.end();
    }

    private static HarnessRows connectors(int count, int cavities) {
        HarnessRows x = new HarnessRows();
        for (int i = 0; i < count; i++) {
            x.connector(cavities);
        }
        return x;
    }

    /** Wires 0 and 1 between two connectors, by a bundle of 10. */
    private static HarnessRows twoWires() {
        HarnessRows x = connectors(2, 4);
        x.bundle(0, 1, 10);
        x.wire(0, 0, 1, 0);
        x.wire(0, 1, 1, 1);
        return x;
    }

    private static void wireIsNumbered() {
        CHECK.about("5: A new WIRE: its number");
        HarnessRows x = connectors(2, 3);
        CHECK.same("wire(0, 2, 1, 2)", 0, x.wire(0, 2, 1, 2));
        CHECK.same("wire(1, 0, 0, 0)", 1, x.wire(1, 0, 0, 0));
        CHECK.same("wire(1, 1, 0, 1)", 2, x.wire(1, 1, 0, 1));
    }

    private static void wireOfATakenCavityIsNone() {
        CHECK.about("5: NONE, when a CAVITY is taken");
        HarnessRows x = connectors(2, 3);
        x.wire(0, 0, 1, 0);
        CHECK.same("its first, by a first end", -1, x.wire(0, 0, 1, 1));
        CHECK.same("its first, by an other end", -1, x.wire(1, 0, 1, 1));
        CHECK.same("its other, by a first end", -1, x.wire(1, 1, 0, 0));
        CHECK.same("its other, by an other end", -1, x.wire(0, 1, 1, 0));
        CHECK.same("both, by one wire", -1, x.wire(1, 0, 0, 0));
        x.wire(0, 1, 1, 1);
        CHECK.same("both, by two wires", -1, x.wire(0, 0, 1, 1));
        CHECK.same("the last two that are free", 2, x.wire(1, 2, 0, 2));
        CHECK.same("none is free", -1, x.wire(0, 2, 1, 2));
    }

    private static void wireOfOneCavityIsNone() {
        CHECK.about("5: NONE, when both are one");
        HarnessRows x = connectors(2, 1);
        CHECK.same("a free one", -1, x.wire(0, 0, 0, 0));
        CHECK.same("two of one number", 0, x.wire(0, 0, 1, 0));
        CHECK.same("a taken one", -1, x.wire(1, 0, 1, 0));
    }

    private static void wireIsNoneWithTwentyFour() {
        CHECK.about("5: NONE, when there are 24");
        HarnessRows x = connectors(4, 16);
        for (int i = 0; i < 23; i++) {
            x.wire(i % 2, i / 2, 2 + i % 2, i / 2);
        }
        CHECK.same("with 23", 23, x.wire(0, 15, 1, 15));
        CHECK.same("with 24", -1, x.wire(0, 14, 1, 14));
        CHECK.same("with 24, again", -1, x.wire(3, 15, 2, 15));
        CHECK.no("it joins nothing", x.joined(0, 14, 1, 14));
        CHECK.throwsIndex("colour(24)", () -> x.colour(24));
    }

    private static void wireThatIsNoneTakesNothing() {
        CHECK.about("5: a WIRE that is NONE is not there");
        HarnessRows x = connectors(2, 3);
        x.wire(0, 0, 1, 0);
        x.wire(0, 0, 1, 1);
        x.wire(1, 2, 0, 0);
        x.wire(0, 1, 0, 1);
        CHECK.throwsIndex("length(1)", () -> x.length(1));
        CHECK.no("1, 1 is joined with nothing", x.joined(0, 0, 1, 1));
        CHECK.same("1, 1 and 1, 2 are free", 1, x.wire(1, 1, 1, 2));
        CHECK.same("0, 1 is free", 2, x.wire(0, 1, 0, 2));
    }

    private static void wireRefusesOtherNodes() {
        CHECK.about("5: IndexOutOfBoundsException, when there are no such NODES");
        HarnessRows x = connectors(2, 2);
        for (int wrong : new int[] {-1, 2, 16, Integer.MIN_VALUE, Integer.MAX_VALUE}) {
            CHECK.throwsIndex("wire(" + wrong + ", 0, 0, 0)", () -> x.wire(wrong, 0, 0, 0));
            CHECK.throwsIndex("wire(0, 0, " + wrong + ", 0)", () -> x.wire(0, 0, wrong, 0));
        }
        CHECK.same("the last one", 0, x.wire(1, 0, 0, 0));
    }

    private static void wireRefusesOtherCavities() {
        CHECK.about("5: IndexOutOfBoundsException, when there are no such CAVITIES");
        HarnessRows x = connectors(1, 2);
        x.connector(3);
        for (int wrong : new int[] {-1, 3, 16, 17, Integer.MIN_VALUE, Integer.MAX_VALUE}) {
            CHECK.throwsIndex("wire(1, " + wrong + ", 0, 0)", () -> x.wire(1, wrong, 0, 0));
            CHECK.throwsIndex("wire(0, 0, 1, " + wrong + ")", () -> x.wire(0, 0, 1, wrong));
        }
        CHECK.throwsIndex("cavity 2 of 2, though the other has it", () -> x.wire(0, 2, 1, 2));
        CHECK.throwsIndex("cavity 2 of 2, turned", () -> x.wire(1, 2, 0, 2));
        CHECK.same("the last ones", 0, x.wire(0, 1, 1, 2));
    }

    private static void wireRefusesPlainNodes() {
        CHECK.about("5: IndexOutOfBoundsException: plain NODES have none");
        HarnessRows x = connectors(1, 2);
        x.node();
        CHECK.throwsIndex("wire(1, 0, 0, 0)", () -> x.wire(1, 0, 0, 0));
        CHECK.throwsIndex("wire(0, 0, 1, 0)", () -> x.wire(0, 0, 1, 0));
        CHECK.throwsIndex("wire(1, 0, 1, 0)", () -> x.wire(1, 0, 1, 0));
        CHECK.throwsIndex("wire(1, -1, 0, 0)", () -> x.wire(1, -1, 0, 0));
    }

    private static void wireRefusedTakesNothing() {
        CHECK.about("5: a WIRE that is refused is not there");
        HarnessRows x = connectors(1, 2);
        CHECK.throwsIndex("wire(0, 0, 0, 2)", () -> x.wire(0, 0, 0, 2));
        CHECK.throwsIndex("wire(1, 0, 0, 1)", () -> x.wire(1, 0, 0, 1));
        CHECK.throwsIndex("length(0)", () -> x.length(0));
        CHECK.same("both are free", 0, x.wire(0, 0, 0, 1));
    }

    private static void wireThrowsAheadOfNone() {
        CHECK.about("5: an exception, and NONE: the NODES and CAVITIES first");
        HarnessRows x = connectors(4, 16);
        x.wire(0, 0, 1, 0);
        CHECK.throwsIndex("a taken one", () -> x.wire(0, 0, 1, 16));
        CHECK.throwsIndex("both are one that is not there", () -> x.wire(2, 16, 2, 16));
        for (int i = 1; i < 24; i++) {
            x.wire(i % 2, i / 2, 2 + i % 2, i / 2);
        }
        CHECK.throwsIndex("with 24", () -> x.wire(4, 0, 0, 15));
    }

    private static void loadTellsWhetherOneWasAnother() {
        CHECK.about("6: A WIRE's load and drop: whether one was another");
        HarnessRows x = twoWires();
        CHECK.no("as at first", x.load(0, 0, 1_000_000));
        CHECK.yes("the load was another", x.load(0, 1, 1_000_000));
        CHECK.yes("the drop was another", x.load(0, 1, 999_999));
        CHECK.no("none was another", x.load(0, 1, 999_999));
        CHECK.yes("both were others", x.load(0, 5, 6));
        CHECK.yes("they are turned", x.load(0, 6, 5));
        CHECK.no("none was another", x.load(0, 6, 5));
    }

    private static void loadIsOfOneWire() {
        CHECK.about("6: A WIRE's load and drop: of no other one");
        HarnessRows x = twoWires();
        x.load(0, 7, 8);
        CHECK.no("wire 1 is as at first", x.load(1, 0, 1_000_000));
        x.load(1, 9, 10);
        CHECK.no("wire 0 is as it was told", x.load(0, 7, 8));
    }

    private static void loadHoldsBothEnds() {
        CHECK.about("6: milliampere 0 .. 1,000,000, dropMillivolt 0 .. 1,000,000: the last that are allowed");
        HarnessRows x = twoWires();
        CHECK.yes("0, 0", x.load(0, 0, 0));
        CHECK.yes("1000000, 0", x.load(0, 1_000_000, 0));
        CHECK.yes("1000000, 1000000", x.load(0, 1_000_000, 1_000_000));
        CHECK.no("it is told", x.load(0, 1_000_000, 1_000_000));
    }

    private static void loadRefusesOtherWires() {
        CHECK.about("6: IndexOutOfBoundsException, when there is no such WIRE");
        HarnessRows x = twoWires();
        for (int wrong : NO_WIRES) {
            CHECK.throwsIndex("load(" + wrong + ", 0, 0)", () -> Check.number(x.load(wrong, 0, 0)));
        }
        CHECK.yes("the last one", x.load(1, 0, 0));
    }

    private static void loadRefusesOtherMilliamperes() {
        CHECK.about("6: IllegalArgumentException, when milliampere is not 0 .. 1,000,000");
        HarnessRows x = twoWires();
        for (long wrong : new long[] {-1, 1_000_001, 1L << 32, Long.MIN_VALUE, Long.MAX_VALUE}) {
            CHECK.throwsArgument("load(0, " + wrong + ", 0)", () -> Check.number(x.load(0, wrong, 0)));
        }
    }

    private static void loadRefusesOtherDrops() {
        CHECK.about("6: IllegalArgumentException, when dropMillivolt is not 0 .. 1,000,000");
        HarnessRows x = twoWires();
        for (long wrong : new long[] {-1, 1_000_001, 1L << 32, Long.MIN_VALUE, Long.MAX_VALUE}) {
            CHECK.throwsArgument("load(0, 0, " + wrong + ")", () -> Check.number(x.load(0, 0, wrong)));
        }
    }

    private static void loadLooksAtTheWireFirst() {
        CHECK.about("6: both exceptions: the WIRE first");
        HarnessRows x = twoWires();
        CHECK.throwsIndex("load(2, -1, 0)", () -> Check.number(x.load(2, -1, 0)));
        CHECK.throwsIndex("load(-1, 0, 1000001)", () -> Check.number(x.load(-1, 0, 1_000_001)));
    }

    private static void loadRefusedChangesNothing() {
        CHECK.about("6: a load that is refused is not told");
        HarnessRows x = twoWires();
        x.load(0, 3, 4);
        CHECK.throwsArgument("load(0, 5, -1)", () -> Check.number(x.load(0, 5, -1)));
        CHECK.throwsArgument("load(0, -1, 5)", () -> Check.number(x.load(0, -1, 5)));
        CHECK.throwsIndex("load(2, 5, 5)", () -> Check.number(x.load(2, 5, 5)));
        CHECK.no("load(0, 3, 4)", x.load(0, 3, 4));
    }

    private static void lengthWithSlack() {
        CHECK.about("9: A WIRE's length with SLACK");
        HarnessRows x = twoWires();
        CHECK.same("none", 10, x.length(1));
        x.slack(1, 3);
        CHECK.same("10 and 10 / 3", 14, x.length(1));
        x.wire(0, 2, 0, 3);
        CHECK.same("within one node", 0, x.length(2));
        x.slack(0, 3);
        CHECK.same("none again", 10, x.length(0));
    }

    private static void lengthIsNoneWithoutAWay() {
        CHECK.about("9: NONE without a WAY");
        HarnessRows x = connectors(2, 2);
        x.wire(0, 0, 1, 0);
        CHECK.same("no bundle", -1, x.length(0));
        x.slack(1, 1);
        CHECK.same("no bundle, with slack", -1, x.length(0));
        x.node();
        x.bundle(0, 2, 4);
        CHECK.same("half of the way", -1, x.length(0));
        x.bundle(2, 1, 3);
        CHECK.same("the whole way", 14, x.length(0));
    }

    private static void lengthRefusesOtherWires() {
        CHECK.about("9: IndexOutOfBoundsException, when there is no such WIRE");
        HarnessRows x = twoWires();
        for (int wrong : NO_WIRES) {
            CHECK.throwsIndex("length(" + wrong + ")", () -> x.length(wrong));
        }
        CHECK.same("the last one", 10, x.length(1));
    }

    private static void slackTellsWhetherOneWasAnother() {
        CHECK.about("10: The SLACK: whether one of both was another number");
        HarnessRows x = new HarnessRows();
        CHECK.no("slack(0, 1)", x.slack(0, 1));
        CHECK.yes("below was another", x.slack(0, 2));
        CHECK.yes("above was another", x.slack(1, 2));
        CHECK.no("none was", x.slack(1, 2));
        CHECK.yes("the same share in other numbers", x.slack(2, 4));
        CHECK.no("none was", x.slack(2, 4));
    }

    private static void slackBelow() {
        CHECK.about("10: IllegalArgumentException, when below is not 1 .. 1,000");
        HarnessRows x = new HarnessRows();
        for (long wrong : new long[] {0, 1001, -1, (1L << 32) + 1, Long.MIN_VALUE, Long.MAX_VALUE}) {
            CHECK.throwsArgument("slack(0, " + wrong + ")", () -> Check.number(x.slack(0, wrong)));
            CHECK.throwsArgument("slack(" + wrong + ", " + wrong + ")", () -> Check.number(x.slack(wrong, wrong)));
        }
        CHECK.yes("1000", x.slack(0, 1000));
        CHECK.yes("1", x.slack(0, 1));
    }

    private static void slackAbove() {
        CHECK.about("10: IllegalArgumentException, when above is not 0 .. below");
        HarnessRows x = new HarnessRows();
        for (long below : new long[] {1, 2, 500, 999, 1000}) {
            for (long wrong : new long[] {-1, below + 1, (1L << 32), Long.MIN_VALUE, Long.MAX_VALUE}) {
                CHECK.throwsArgument("slack(" + wrong + ", " + below + ")", () -> Check.number(x.slack(wrong, below)));
            }
            CHECK.yes("slack(" + below + ", " + below + ")", x.slack(below, below));
            CHECK.yes("slack(0, " + below + ")", x.slack(0, below));
        }
    }

    private static void slackRefusedChangesNothing() {
        CHECK.about("10: a SLACK that is refused is not told");
        HarnessRows x = twoWires();
        x.slack(1, 2);
        CHECK.throwsArgument("slack(1, 0)", () -> Check.number(x.slack(1, 0)));
        CHECK.throwsArgument("slack(3, 2)", () -> Check.number(x.slack(3, 2)));
        CHECK.throwsArgument("slack(-1, 7)", () -> Check.number(x.slack(-1, 7)));
        CHECK.same("length(0)", 15, x.length(0));
        CHECK.no("slack(1, 2)", x.slack(1, 2));
    }

    private static void colourIsTheLowestFree() {
        CHECK.about("15: A WIRE's COLOUR");
        HarnessRows x = connectors(4, 3);
        x.wire(0, 0, 1, 0);
        x.wire(1, 1, 2, 0);
        x.wire(2, 1, 3, 0);
        x.wire(3, 1, 0, 1);
        CHECK.same("colour(0)", 0, x.colour(0));
        CHECK.same("colour(1) beside 0", 1, x.colour(1));
        CHECK.same("colour(2) beside 1", 0, x.colour(2));
        CHECK.same("colour(3) beside 0 and 0", 1, x.colour(3));
    }

    private static void colourRefusesOtherWires() {
        CHECK.about("15: IndexOutOfBoundsException, when there is no such WIRE");
        HarnessRows x = twoWires();
        for (int wrong : NO_WIRES) {
            CHECK.throwsIndex("colour(" + wrong + ")", () -> x.colour(wrong));
        }
        CHECK.same("the last one", 1, x.colour(1));
    }
}
