/** The document's 'Terms': the limits that several promises use, and how things are at first. */
public final class TermsTest {
    private static final Check CHECK = new Check();

    public static void main(String[] args) {
        nodesAreNumberedFromZero();
        sixteenConnectors();
        sixteenPlainNodes();
        sixteenNodesOfBothKinds();
        cavitiesGoUpToTheirCount();
        aCavityBehindTheLastIsNotOneOfTheNextConnector();
        bundlesAreNumberedFromZero();
        bundleLengths();
        noRingOfTwoOrThree();
        noRingOfSixteen();
        fifteenBundlesJoinAll();
        wiresAreNumberedFromZero();
        twentyFourWires();
        aWireGoesToAnotherCavity();
        aCavityHasOneWire();
        noWayBetweenTrees();
        aWayOfLengthZero();
        theWayGoesOverTheBundles();
        slackAtFirst();
        slackIsRoundedUp();
        slackOfTheLongestWay();
        slackOfNoLength();
        rowsAreToldOrNot();
        rowNumbers();
        rowsHoldOneToAMillion();
        loadAtFirst();
        dropAtFirst();
        aRowForTheLoad();
        aRowForTheDrop();
        noLoadNeedsNoDrop();
        theDropOfTheLongestWire();
        theDropOfPowersOfTwo();
        colourOfTheFirstWire();
        coloursAtOneConnector();
        coloursAtBothConnectors();
        coloursOfOtherConnectors();
        coloursAreNotChangedByHigherWires();
        twentyFourColours();
        CHECK.end();
    }

    private static HarnessRows connectors(int count, int cavities) {
        HarnessRows x = new HarnessRows();
        for (int i = 0; i < count; i++) {
            x.connector(cavities);
        }
        return x;
    }

    private static HarnessRows wireOf(long length) {
        HarnessRows x = connectors(2, 2);
        x.bundle(0, 1, length);
        x.wire(0, 0, 1, 0);
        return x;
    }

    /** 16 connectors in a row, each joined with the next one; wire 0 goes from end to end. */
    private static HarnessRows longestWay() {
        HarnessRows x = connectors(16, 2);
        for (int i = 1; i < 16; i++) {
            x.bundle(i - 1, i, 100_000);
        }
        x.wire(0, 0, 15, 0);
        return x;
    }

    private static void nodesAreNumberedFromZero() {
        CHECK.about("NODES, numbered from 0");
        CHECK.same("a first node()", 0, new HarnessRows().node());
        CHECK.same("a first connector(1)", 0, new HarnessRows().connector(1));
        HarnessRows x = new HarnessRows();
        x.node();
        CHECK.same("a connector behind a plain node", 1, x.connector(1));
        CHECK.same("a plain node behind a connector", 2, x.node());
    }

    private static void sixteenConnectors() {
        CHECK.about("NODES, at most 16: all are connectors");
        HarnessRows x = connectors(15, 1);
        CHECK.same("the 16th", 15, x.connector(16));
        CHECK.same("a 17th", -1, x.connector(1));
        CHECK.same("a 17th again", -1, x.connector(1));
        CHECK.same("cavity 15 of the 16th", 0, x.wire(15, 15, 0, 0));
        CHECK.throwsIndex("node 16", () -> x.wire(16, 0, 1, 0));
    }

    private static void sixteenPlainNodes() {
        CHECK.about("NODES, at most 16: all are plain");
        HarnessRows x = new HarnessRows();
        for (int i = 0; i < 16; i++) {
            CHECK.same("node " + i, i, x.node());
        }
        CHECK.same("a 17th", -1, x.node());
        CHECK.same("a 17th again", -1, x.node());
        CHECK.throwsIndex("node 16", () -> x.bundle(0, 16, 1));
    }

    private static void sixteenNodesOfBothKinds() {
        CHECK.about("NODES, at most 16, are plain or CONNECTORS");
        HarnessRows x = new HarnessRows();
        for (int i = 0; i < 16; i++) {
            CHECK.same("node " + i, i, i % 3 == 0 ? x.node() : x.connector(3));
        }
        CHECK.same("a 17th, plain", -1, x.node());
        CHECK.same("a 17th, a connector", -1, x.connector(3));
    }

    private static void cavitiesGoUpToTheirCount() {
        CHECK.about("CONNECTORS with CAVITIES 0 .. n - 1 (n 1 .. 16)");
        HarnessRows x = new HarnessRows();
        for (int n = 1; n <= 16; n++) {
            int connector = n - 1;
            int behind = n;
            CHECK.same("connector(" + n + ")", connector, x.connector(n));
            CHECK.yes("cavity 0 of " + n, x.joined(connector, 0, connector, 0));
            CHECK.yes("the last cavity of " + n, x.joined(connector, n - 1, connector, n - 1));
            CHECK.throwsIndex("cavity " + n + " of " + n, () -> Check.number(x.joined(connector, behind, connector, behind)));
            CHECK.throwsIndex("cavity -1 of " + n, () -> Check.number(x.joined(connector, -1, connector, -1)));
        }
    }

    private static void aCavityBehindTheLastIsNotOneOfTheNextConnector() {
        CHECK.about("CAVITIES 0 .. n - 1: none wraps around into another CONNECTOR");
        HarnessRows x = connectors(3, 16);
        x.wire(1, 0, 2, 15);
        CHECK.throwsIndex("cavity 16 of 0 is not 0 of 1", () -> Check.number(x.joined(0, 16, 2, 15)));
        CHECK.throwsIndex("cavity -1 of 1 is not 15 of 0", () -> x.wire(1, -1, 0, 0));
        CHECK.throwsIndex("cavity 32 of 0 is not 0 of 2", () -> x.wire(0, 32, 0, 0));
        CHECK.same("none of them is taken", 1, x.wire(0, 15, 2, 0));
    }

    private static void bundlesAreNumberedFromZero() {
        CHECK.about("BUNDLES, numbered from 0");
        HarnessRows x = connectors(3, 1);
        CHECK.same("the first", 0, x.bundle(0, 1, 1));
        CHECK.same("the second", 1, x.bundle(2, 1, 1));
    }

    private static void bundleLengths() {
        CHECK.about("BUNDLES with a length (1 .. 100,000)");
        CHECK.same("1", 1, wireOf(1).length(0));
        CHECK.same("100000", 100_000, wireOf(100_000).length(0));
        HarnessRows x = connectors(2, 1);
        CHECK.throwsArgument("0", () -> x.bundle(0, 1, 0));
        CHECK.throwsArgument("100001", () -> x.bundle(0, 1, 100_001));
    }

    private static void noRingOfTwoOrThree() {
        CHECK.about("BUNDLES never make a ring: of one, two, three NODES");
        HarnessRows x = connectors(3, 1);
        CHECK.same("of one", -1, x.bundle(2, 2, 1));
        x.bundle(0, 1, 1);
        CHECK.same("of two", -1, x.bundle(0, 1, 1));
        CHECK.same("of two, turned", -1, x.bundle(1, 0, 1));
        x.bundle(1, 2, 1);
        CHECK.same("of three", -1, x.bundle(2, 0, 1));
        CHECK.same("of three, turned", -1, x.bundle(0, 2, 1));
    }

    private static void noRingOfSixteen() {
        CHECK.about("BUNDLES never make a ring: of 16 NODES");
        HarnessRows x = longestWay();
        CHECK.same("from end to end", -1, x.bundle(15, 0, 1));
        CHECK.same("the way stays", 1_500_000, x.length(0));
    }

    private static void fifteenBundlesJoinAll() {
        CHECK.about("BUNDLES never make a ring: 16 NODES are full with 15");
        HarnessRows x = connectors(16, 1);
        for (int i = 1; i < 8; i++) {
            CHECK.same("a row's bundle", i - 1, x.bundle(i, i - 1, 1));
        }
        for (int i = 9; i < 16; i++) {
            CHECK.same("a star's bundle", i - 2, x.bundle(8, i, 100_000));
        }
        CHECK.same("a leaf of the star with an end of the row", 14, x.bundle(0, 15, 5));
        for (int a = 0; a < 16; a++) {
            for (int b = 0; b < 16; b++) {
                CHECK.same("all are joined " + a + " " + b, -1, x.bundle(a, b, 5));
            }
        }
    }

    private static void wiresAreNumberedFromZero() {
        CHECK.about("WIRES, numbered from 0");
        HarnessRows x = connectors(2, 2);
        CHECK.same("the first", 0, x.wire(1, 1, 0, 0));
        CHECK.same("the second", 1, x.wire(0, 1, 1, 0));
    }

    private static void twentyFourWires() {
        CHECK.about("WIRES, at most 24");
        HarnessRows x = connectors(4, 16);
        for (int i = 0; i < 24; i++) {
            int from = i < 12 ? 0 : 2;
            CHECK.same("wire " + i, i, x.wire(from, i % 12, from + 1, i % 12));
        }
        CHECK.same("a 25th", -1, x.wire(0, 12, 1, 12));
        CHECK.same("a 25th again", -1, x.wire(0, 13, 0, 14));
        CHECK.same("wire 23 is there", -1, x.length(23));
        CHECK.throwsIndex("wire 24 is not", () -> x.length(24));
    }

    private static void aWireGoesToAnotherCavity() {
        CHECK.about("WIRES go from a CAVITY of a CONNECTOR to another one");
        HarnessRows x = connectors(2, 3);
        CHECK.same("to itself", -1, x.wire(0, 0, 0, 0));
        CHECK.same("to one of the same connector", 0, x.wire(0, 0, 0, 1));
        CHECK.same("to one of another connector, of its number", 1, x.wire(0, 2, 1, 2));
    }

    private static void aCavityHasOneWire() {
        CHECK.about("a CAVITY has one wire at most");
        HarnessRows x = connectors(2, 3);
        x.wire(0, 0, 1, 0);
        CHECK.same("from a first end", -1, x.wire(0, 0, 1, 1));
        CHECK.same("from an other end", -1, x.wire(1, 0, 1, 1));
        CHECK.same("to a first end", -1, x.wire(1, 1, 0, 0));
        CHECK.same("to an other end", -1, x.wire(0, 1, 1, 0));
        CHECK.same("the same one again", -1, x.wire(0, 0, 1, 0));
        CHECK.same("the same one turned", -1, x.wire(1, 0, 0, 0));
        CHECK.same("free ones", 1, x.wire(0, 1, 1, 1));
    }

    private static void noWayBetweenTrees() {
        CHECK.about("A WIRE's WAY: none, when they are not joined");
        HarnessRows x = connectors(4, 1);
        x.wire(0, 0, 3, 0);
        CHECK.same("no bundle", -1, x.length(0));
        x.bundle(0, 1, 5);
        x.bundle(2, 3, 5);
        CHECK.same("two trees", -1, x.length(0));
        x.bundle(1, 2, 5);
        CHECK.same("one tree", 15, x.length(0));
    }

    private static void aWayOfLengthZero() {
        CHECK.about("A WIRE's WAY: of length 0 within one NODE");
        HarnessRows x = connectors(2, 2);
        x.wire(1, 0, 1, 1);
        CHECK.same("without bundles", 0, x.length(0));
        x.bundle(0, 1, 5);
        CHECK.same("with one", 0, x.length(0));
    }

    private static void theWayGoesOverTheBundles() {
        CHECK.about("A WIRE's WAY is that of BUNDLES between its NODES");
        CHECK.same("15 of them", 1_500_000, longestWay().length(0));
        HarnessRows x = connectors(16, 1);
        // Joins pairs, then pairs of pairs, so that whole trees are joined by inner nodes.
        for (int step = 1; step < 16; step *= 2) {
            for (int i = 0; i + step < 16; i += 2 * step) {
                x.bundle(i + step, i + step - 1, i + step);
            }
        }
        x.wire(15, 0, 0, 0);
        CHECK.same("1 + .. + 15", 120, x.length(0));
        x.wire(4, 0, 11, 0);
        CHECK.same("5 + .. + 11", 56, x.length(1));
    }

    private static void slackAtFirst() {
        CHECK.about("a SLACK above / below (0 / 1 at first)");
        CHECK.no("slack(0, 1)", new HarnessRows().slack(0, 1));
        CHECK.yes("slack(0, 2)", new HarnessRows().slack(0, 2));
        CHECK.yes("slack(1, 1)", new HarnessRows().slack(1, 1));
        CHECK.same("length", 77, wireOf(77).length(0));
    }

    private static void slackIsRoundedUp() {
        CHECK.about("that of its WAY and that * above / below, rounded up");
        HarnessRows x = wireOf(10);
        long[][] due = {{1, 10, 11}, {1, 11, 11}, {1, 9, 12}, {1, 1000, 11}, {99, 1000, 11}, {100, 1000, 11},
            {101, 1000, 12}, {899, 1000, 19}, {900, 1000, 19}, {901, 1000, 20}, {999, 1000, 20}, {1000, 1000, 20},
            {1, 1, 20}, {1, 3, 14}, {2, 3, 17}, {0, 1000, 10}, {0, 1, 10}};
        for (long[] one : due) {
            x.slack(one[0], one[1]);
            CHECK.same("10 with " + one[0] + " / " + one[1], one[2], x.length(0));
        }
        HarnessRows y = wireOf(1);
        y.slack(1, 1000);
        CHECK.same("1 with 1 / 1000", 2, y.length(0));
    }

    private static void slackOfTheLongestWay() {
        CHECK.about("that of its WAY and that * above / below: the longest");
        HarnessRows x = longestWay();
        x.slack(1000, 1000);
        CHECK.same("1500000 with 1000 / 1000", 3_000_000, x.length(0));
        x.slack(999, 1000);
        CHECK.same("1500000 with 999 / 1000", 2_998_500, x.length(0));
        x.slack(996, 997);
        CHECK.same("1500000 with 996 / 997", 2_998_496, x.length(0));
    }

    private static void slackOfNoLength() {
        CHECK.about("that of its WAY and that * above / below: of 0, and of no WAY");
        HarnessRows x = connectors(2, 3);
        x.wire(0, 0, 0, 1);
        x.wire(0, 2, 1, 0);
        x.slack(1000, 1000);
        CHECK.same("of 0", 0, x.length(0));
        CHECK.same("of no way", -1, x.length(1));
    }

    private static void rowsAreToldOrNot() {
        CHECK.about("The TABLE has ROWS, told or not");
        HarnessRows x = wireOf(5);
        CHECK.same("none is told", -1, x.gauge(0));
        for (int row = 9; row >= 0; row--) {
            CHECK.yes("row " + row + " was not", x.table(row, 7, 1, 1));
            CHECK.same("row " + row + " is told", row, x.gauge(0));
            CHECK.no("row " + row + " was", x.table(row, 7, 1, 1));
        }
    }

    private static void rowNumbers() {
        CHECK.about("ROWS 0 .. 9");
        HarnessRows x = new HarnessRows();
        CHECK.yes("0", x.table(0, 1, 1, 1));
        CHECK.yes("9", x.table(9, 1, 1, 1));
        CHECK.throwsIndex("-1", () -> Check.number(x.table(-1, 1, 1, 1)));
        CHECK.throwsIndex("10", () -> Check.number(x.table(10, 1, 1, 1)));
    }

    private static void rowsHoldOneToAMillion() {
        CHECK.about("area, milliamperes, microohms a metre (1 .. 1,000,000 each)");
        HarnessRows x = wireOf(5);
        CHECK.yes("1 each", x.table(0, 1, 1, 1));
        CHECK.same("area 1 will do", 0, x.gauge(0));
        CHECK.yes("1000000 each", x.table(0, 1_000_000, 1_000_000, 1_000_000));
        CHECK.same("area 1000000 will do", 0, x.gauge(0));
        for (int which = 0; which < 3; which++) {
            for (long wrong : new long[] {0, 1_000_001}) {
                long[] a = {1, 1, 1};
                a[which] = wrong;
                CHECK.throwsArgument(a[0] + ", " + a[1] + ", " + a[2], () -> Check.number(x.table(0, a[0], a[1], a[2])));
            }
        }
    }

    private static void loadAtFirst() {
        CHECK.about("a load (milliamperes, at first 0)");
        CHECK.yes("load(0, 1, 1000000)", wireOf(5).load(0, 1, 1_000_000));
        CHECK.no("load(0, 0, 1000000)", wireOf(5).load(0, 0, 1_000_000));
    }

    private static void dropAtFirst() {
        CHECK.about("a drop (millivolts, at first 1,000,000)");
        CHECK.yes("load(0, 0, 0)", wireOf(5).load(0, 0, 0));
        CHECK.yes("load(0, 0, 999999)", wireOf(5).load(0, 0, 999_999));
        HarnessRows x = wireOf(5);
        x.load(0, 5, 5);
        x.wire(0, 1, 1, 1);
        CHECK.no("a second wire's", x.load(1, 0, 1_000_000));
    }

    private static void aRowForTheLoad() {
        CHECK.about("A ROW will do, when its milliamperes are not below the load");
        HarnessRows x = wireOf(1);
        x.table(2, 1, 500, 1);
        x.load(0, 499, 1_000_000);
        CHECK.same("one above", 2, x.gauge(0));
        x.load(0, 500, 1_000_000);
        CHECK.same("the load itself", 2, x.gauge(0));
        x.load(0, 501, 1_000_000);
        CHECK.same("one below", -1, x.gauge(0));
        x.table(2, 1, 1_000_000, 1);
        x.load(0, 1_000_000, 1_000_000);
        CHECK.same("1000000 both", 2, x.gauge(0));
        x.table(2, 1, 999_999, 1);
        CHECK.same("999999 for 1000000", -1, x.gauge(0));
    }

    private static void aRowForTheDrop() {
        CHECK.about("load * microohms * length is not above drop * 1,000,000,000");
        HarnessRows x = wireOf(19);
        x.load(0, 52_579, 1);
        x.table(0, 1, 1_000_000, 1001);
        CHECK.same("52579 * 1001 * 19 is 10^9 + 1", -1, x.gauge(0));
        HarnessRows y = wireOf(1000);
        y.load(0, 1000, 1);
        y.table(0, 1, 1000, 1000);
        CHECK.same("1000 * 1000 * 1000 is 10^9", 0, y.gauge(0));
        y.table(0, 1, 1000, 1001);
        CHECK.same("a microohm more", -1, y.gauge(0));
        y.table(0, 1, 1001, 1000);
        y.load(0, 1001, 1);
        CHECK.same("a milliampere more", -1, y.gauge(0));
        y.load(0, 1001, 2);
        CHECK.same("a millivolt more", 0, y.gauge(0));
        y.load(0, 1000, 1);
        y.slack(1, 1000);
        CHECK.same("a length, with slack, of one more", -1, y.gauge(0));
    }

    private static void noLoadNeedsNoDrop() {
        CHECK.about("load * microohms * length is not above drop * 1,000,000,000: 0 is not above 0");
        HarnessRows x = wireOf(100_000);
        x.table(0, 1, 1, 1_000_000);
        x.load(0, 0, 0);
        CHECK.same("no load", 0, x.gauge(0));
        x.load(0, 1, 0);
        CHECK.same("a load of 1 with a drop of 0", -1, x.gauge(0));
        HarnessRows y = connectors(1, 2);
        y.wire(0, 0, 0, 1);
        y.table(0, 1, 1_000_000, 1_000_000);
        y.load(0, 1_000_000, 0);
        CHECK.same("no length", 0, y.gauge(0));
    }

    private static void theDropOfTheLongestWire() {
        CHECK.about("load * microohms * length is not above drop * 1,000,000,000: no wrap-around");
        HarnessRows x = longestWay();
        x.slack(1, 1);
        x.load(0, 1_000_000, 1_000_000);
        x.table(4, 1, 1_000_000, 1_000_000);
        CHECK.same("3 * 10^18 is above 10^15", -1, x.gauge(0));
        x.table(4, 1, 1_000_000, 333);
        CHECK.same("999 * 10^12 is not", 4, x.gauge(0));
        x.table(4, 1, 1_000_000, 334);
        CHECK.same("1002 * 10^12 is", -1, x.gauge(0));
    }

    private static void theDropOfPowersOfTwo() {
        CHECK.about("load * microohms * length is not above drop * 1,000,000,000: no wrap-around, of 2^32 and 2^59");
        HarnessRows x = wireOf(1);
        x.table(0, 1, 1_000_000, 65_536);
        x.load(0, 65_536, 4);
        CHECK.same("2^32 is above 4 * 10^9", -1, x.gauge(0));
        x.load(0, 65_536, 5);
        CHECK.same("2^32 is not above 5 * 10^9", 0, x.gauge(0));
        x.load(0, 1, 3);
        CHECK.same("2^16 is not above 3 * 10^9", 0, x.gauge(0));
        HarnessRows y = connectors(12, 1);
        for (int i = 1; i < 12; i++) {
            y.bundle(i - 1, i, i == 11 ? 48_576 : 100_000);
        }
        y.wire(0, 0, 11, 0);
        y.slack(1, 1);
        CHECK.same("2^21", 1 << 21, y.length(0));
        y.table(0, 1, 1_000_000, 1 << 19);
        y.load(0, 1 << 19, 1_000_000);
        CHECK.same("2^59 is above 10^15", -1, y.gauge(0));
    }

    private static void colourOfTheFirstWire() {
        CHECK.about("COLOURS: the lowest one, from 0 on");
        HarnessRows x = connectors(1, 2);
        x.wire(0, 0, 0, 1);
        CHECK.same("colour(0)", 0, x.colour(0));
    }

    private static void coloursAtOneConnector() {
        CHECK.about("COLOURS: that no lower WIRE has which ends at one of its two CONNECTORS: at one of them");
        HarnessRows x = connectors(5, 4);
        x.wire(0, 0, 1, 0);
        x.wire(0, 1, 2, 0);
        CHECK.same("first ends meet", 1, x.colour(1));
        x.wire(3, 0, 1, 1);
        CHECK.same("other ends meet", 1, x.colour(2));
        x.wire(1, 2, 4, 0);
        CHECK.same("its first end meets other ends", 2, x.colour(3));
        x.wire(4, 1, 0, 2);
        CHECK.same("its other end meets first ends", 3, x.colour(4));
    }

    private static void coloursAtBothConnectors() {
        CHECK.about("COLOURS: that no lower WIRE has which ends at one of its two CONNECTORS: at both");
        HarnessRows x = connectors(4, 4);
        x.wire(0, 0, 0, 1);
        x.wire(0, 2, 1, 0);
        x.wire(2, 0, 2, 1);
        x.wire(2, 2, 3, 0);
        CHECK.same("0 and 1 at the one", 1, x.colour(1));
        CHECK.same("0 and 1 at the other", 1, x.colour(3));
        x.wire(1, 1, 3, 1);
        CHECK.same("1 at each: the gap at 0", 0, x.colour(4));
        x.wire(1, 2, 2, 3);
        CHECK.same("0 and 1 at both", 2, x.colour(5));
    }

    private static void coloursOfOtherConnectors() {
        CHECK.about("COLOURS: a WIRE at other CONNECTORS bears not on it");
        HarnessRows x = connectors(4, 4);
        x.bundle(0, 1, 1);
        x.bundle(1, 2, 1);
        x.bundle(2, 3, 1);
        x.wire(0, 0, 3, 0);
        x.wire(1, 0, 2, 0);
        CHECK.same("joined by bundles", 0, x.colour(1));
        x.splice(0, 1);
        CHECK.same("joined by a splice", 0, x.colour(1));
        x.variant();
        x.has(0, 0, false);
        x.wire(0, 1, 0, 2);
        CHECK.same("a wire that is off", 1, x.colour(2));
    }

    private static void coloursAreNotChangedByHigherWires() {
        CHECK.about("COLOURS: each WIRE, by rising numbers");
        HarnessRows x = connectors(5, 4);
        int[][] wires = {{0, 0, 1, 0}, {1, 1, 2, 0}, {2, 1, 3, 0}, {0, 1, 3, 1}, {4, 0, 4, 1}, {4, 2, 0, 2}, {3, 2, 2, 2}};
        int[] colours = {0, 1, 0, 1, 0, 2, 2};
        for (int i = 0; i < wires.length; i++) {
            x.wire(wires[i][0], wires[i][1], wires[i][2], wires[i][3]);
            for (int lower = 0; lower <= i; lower++) {
                CHECK.same("colour(" + lower + ") of " + (i + 1), colours[lower], x.colour(lower));
            }
        }
    }

    private static void twentyFourColours() {
        CHECK.about("COLOURS: full, 24 WIRES that all meet");
        HarnessRows x = connectors(3, 16);
        for (int i = 0; i < 8; i++) {
            x.wire(0, i, 1, i);
            x.wire(1, i + 8, 2, i);
            x.wire(2, i + 8, 0, i + 8);
        }
        for (int i = 0; i < 24; i++) {
            CHECK.same("colour(" + i + ") of 24", i, x.colour(i));
        }
    }
}
