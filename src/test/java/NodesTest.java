/** Promises 1 to 4 and 19: a new object, connectors, nodes, bundles, commands. */
public final class NodesTest {
    private static final Check CHECK = new Check();

    public static void main(String[] args) {
        newObjectHasNoNodes();
        newObjectHasNoWires();
        newObjectHasNoRowsBundlesOrVariants();
        objectsShareNothing();
        connectorIsNumbered();
        connectorIsNoneWithSixteen();
        connectorRefusesOtherCavities();
        connectorRefusedTakesNoNumber();
        nodeIsNumberedLikewise();
        nodeIsNoneWithSixteen();
        nodeHasNoCavities();
        bundleIsNumbered();
        bundleOfJoinedNodesIsNone();
        bundleOfOneNodeIsNone();
        bundleThatIsNoneJoinsNothing();
        bundleRefusesOtherNodes();
        bundleRefusesOtherLengths();
        bundleRefusedJoinsNothing();
        bundleThrowsAheadOfNone();
        commandOfConnectorsAndPlainNodes();
        commandKeepsTheOrderOfTheNodes();
        commandOfTheShortestAndTheLongest();
        commandOfFifteenBundles();
        commandIsNoneBehindIt();
        commandRefusesOtherBundles();
        commandRefusesAnIndexBelowZero();
        CHECK.end();
    }

    private static HarnessRows nodes(int count) {
        HarnessRows x = new HarnessRows();
        for (int i = 0; i < count; i++) {
            x.node();
        }
        return x;
    }

    private static void newObjectHasNoNodes() {
        CHECK.about("1: Nothing is there: no NODES");
        HarnessRows x = new HarnessRows();
        CHECK.same("NONE", -1, HarnessRows.NONE);
        CHECK.throwsIndex("bundle(0, 0, 1)", () -> x.bundle(0, 0, 1));
        CHECK.throwsIndex("wire(0, 0, 0, 0)", () -> x.wire(0, 0, 0, 0));
        CHECK.throwsIndex("joined(0, 0, 0, 0)", () -> Check.number(x.joined(0, 0, 0, 0)));
    }

    private static void newObjectHasNoWires() {
        CHECK.about("1: Nothing is there: no WIRES");
        HarnessRows x = new HarnessRows();
        CHECK.throwsIndex("load(0, 0, 0)", () -> Check.number(x.load(0, 0, 0)));
        CHECK.throwsIndex("gauge(0)", () -> x.gauge(0));
        CHECK.throwsIndex("length(0)", () -> x.length(0));
        CHECK.throwsIndex("reelOf(0)", () -> x.reelOf(0));
        CHECK.throwsIndex("splice(0, 0)", () -> x.splice(0, 0));
        CHECK.throwsIndex("colour(0)", () -> x.colour(0));
        CHECK.same("reel(1)", 0, x.reel(1));
    }

    private static void newObjectHasNoRowsBundlesOrVariants() {
        CHECK.about("1: Nothing is there: no ROWS, BUNDLES, variants");
        HarnessRows x = new HarnessRows();
        CHECK.throwsIndex("command(0, 0)", () -> x.command(0, 0));
        CHECK.throwsIndex("has(0, 0, true)", () -> Check.number(x.has(0, 0, true)));
        CHECK.same("told(0, 0)", -1, x.told(0, 0));
        CHECK.no("slack(0, 1)", x.slack(0, 1));
        for (int row = 0; row < 10; row++) {
            CHECK.yes("table(" + row + ", ..)", x.table(row, 1, 1, 1));
        }
        CHECK.same("variant()", 0, x.variant());
    }

    private static void objectsShareNothing() {
        CHECK.about("1: Nothing is there: also beside an object that is full");
        HarnessRows x = nodes(16);
        x.bundle(0, 1, 1);
        x.variant();
        x.slack(1, 1);
        HarnessRows y = new HarnessRows();
        CHECK.same("node()", 0, y.node());
        CHECK.same("variant()", 0, y.variant());
        CHECK.no("slack(0, 1)", y.slack(0, 1));
        CHECK.throwsIndex("command(0, 0)", () -> y.command(0, 0));
    }

    private static void connectorIsNumbered() {
        CHECK.about("2: A new CONNECTOR: its NODE's number");
        HarnessRows x = new HarnessRows();
        CHECK.same("connector(1)", 0, x.connector(1));
        CHECK.same("connector(16)", 1, x.connector(16));
        x.node();
        CHECK.same("connector(7) behind a plain node", 3, x.connector(7));
        CHECK.same("cavity 0 of 1 and 15 of 16", 0, x.wire(0, 0, 1, 15));
    }

    private static void connectorIsNoneWithSixteen() {
        CHECK.about("2: NONE when there are 16 NODES");
        HarnessRows x = nodes(15);
        CHECK.same("with 15", 15, x.connector(2));
        CHECK.same("with 16", -1, x.connector(2));
        CHECK.same("with 16, again", -1, x.connector(16));
        CHECK.yes("the last one has its cavities", x.joined(15, 1, 15, 1));
        CHECK.throwsIndex("and no more", () -> Check.number(x.joined(15, 2, 15, 2)));
    }

    private static void connectorRefusesOtherCavities() {
        CHECK.about("2: IllegalArgumentException, when cavities are not so (1 .. 16)");
        HarnessRows x = new HarnessRows();
        for (int wrong : new int[] {0, 17, -1, Integer.MIN_VALUE, Integer.MAX_VALUE}) {
            CHECK.throwsArgument("connector(" + wrong + ")", () -> x.connector(wrong));
        }
        for (int i = 0; i < 16; i++) {
            x.connector(1);
        }
        CHECK.throwsArgument("connector(0) with 16 nodes", () -> x.connector(0));
        CHECK.throwsArgument("connector(17) with 16 nodes", () -> x.connector(17));
    }

    private static void connectorRefusedTakesNoNumber() {
        CHECK.about("2: a CONNECTOR that is refused is not there");
        HarnessRows x = new HarnessRows();
        CHECK.throwsArgument("connector(17)", () -> x.connector(17));
        CHECK.throwsIndex("node 0 is not there", () -> x.bundle(0, 0, 1));
        CHECK.same("the next one", 0, x.connector(1));
    }

    private static void nodeIsNumberedLikewise() {
        CHECK.about("3: A new plain NODE likewise: its number");
        HarnessRows x = new HarnessRows();
        CHECK.same("node()", 0, x.node());
        x.connector(1);
        CHECK.same("node() behind a connector", 2, x.node());
    }

    private static void nodeIsNoneWithSixteen() {
        CHECK.about("3: likewise NONE when there are 16 NODES");
        HarnessRows x = new HarnessRows();
        for (int i = 0; i < 15; i++) {
            x.connector(1);
        }
        CHECK.same("with 15", 15, x.node());
        CHECK.same("with 16", -1, x.node());
        CHECK.same("with 16, again", -1, x.node());
        CHECK.same("the last one is there", 0, x.bundle(15, 0, 1));
    }

    private static void nodeHasNoCavities() {
        CHECK.about("3: A new plain NODE: no CAVITIES");
        HarnessRows x = nodes(1);
        CHECK.throwsIndex("cavity 0", () -> Check.number(x.joined(0, 0, 0, 0)));
        CHECK.throwsIndex("cavity -1", () -> Check.number(x.joined(0, -1, 0, -1)));
    }

    private static void bundleIsNumbered() {
        CHECK.about("4: A new BUNDLE: its number");
        HarnessRows x = nodes(16);
        for (int i = 0; i < 15; i++) {
            CHECK.same("bundle " + i, i, x.bundle(i + 1, i, 1 + i));
        }
    }

    private static void bundleOfJoinedNodesIsNone() {
        CHECK.about("4: NONE, when both NODES are joined already");
        HarnessRows x = nodes(6);
        x.bundle(0, 1, 1);
        CHECK.same("by a bundle", -1, x.bundle(0, 1, 1));
        CHECK.same("by a bundle, turned", -1, x.bundle(1, 0, 9));
        x.bundle(2, 1, 1);
        CHECK.same("over two", -1, x.bundle(0, 2, 1));
        x.bundle(3, 4, 1);
        x.bundle(4, 5, 1);
        CHECK.same("not joined: two trees", 4, x.bundle(5, 0, 1));
        CHECK.same("over all", -1, x.bundle(3, 2, 1));
    }

    private static void bundleOfOneNodeIsNone() {
        CHECK.about("4: NONE, when both NODES are one");
        HarnessRows x = nodes(1);
        CHECK.same("a node alone", -1, x.bundle(0, 0, 1));
        x.connector(1);
        x.bundle(0, 1, 5);
        CHECK.same("a joined connector", -1, x.bundle(1, 1, 100_000));
    }

    private static void bundleThatIsNoneJoinsNothing() {
        CHECK.about("4: a BUNDLE that is NONE is not there");
        HarnessRows x = new HarnessRows();
        x.connector(2);
        x.connector(1);
        x.wire(0, 0, 1, 0);
        x.bundle(0, 0, 1);
        CHECK.throwsIndex("command(0, 0)", () -> x.command(0, 0));
        CHECK.same("the next one", 0, x.bundle(0, 1, 8));
        x.bundle(1, 0, 3);
        CHECK.same("the length stays", 8, x.length(0));
        CHECK.throwsIndex("command(1, 0)", () -> x.command(1, 0));
    }

    private static void bundleRefusesOtherNodes() {
        CHECK.about("4: IndexOutOfBoundsException, when there are no such NODES");
        HarnessRows x = nodes(2);
        for (int wrong : new int[] {-1, 2, 16, Integer.MIN_VALUE, Integer.MAX_VALUE}) {
            CHECK.throwsIndex("bundle(" + wrong + ", 0, 1)", () -> x.bundle(wrong, 0, 1));
            CHECK.throwsIndex("bundle(0, " + wrong + ", 1)", () -> x.bundle(0, wrong, 1));
            CHECK.throwsIndex("both " + wrong, () -> x.bundle(wrong, wrong, 1));
        }
        x.node();
        CHECK.same("node 2 is there now", 0, x.bundle(2, 0, 1));
    }

    private static void bundleRefusesOtherLengths() {
        CHECK.about("4: IllegalArgumentException, when length is not so (1 .. 100,000)");
        HarnessRows x = nodes(3);
        for (long wrong : new long[] {0, 100_001, -1, (1L << 32) + 1, Long.MIN_VALUE, Long.MAX_VALUE}) {
            CHECK.throwsArgument("bundle(0, 1, " + wrong + ")", () -> x.bundle(0, 1, wrong));
        }
        CHECK.same("1", 0, x.bundle(0, 1, 1));
        CHECK.same("100000", 1, x.bundle(1, 2, 100_000));
    }

    private static void bundleRefusedJoinsNothing() {
        CHECK.about("4: a BUNDLE that is refused is not there");
        HarnessRows x = nodes(2);
        CHECK.throwsArgument("bundle(0, 1, 0)", () -> x.bundle(0, 1, 0));
        CHECK.throwsIndex("bundle(0, 2, 1)", () -> x.bundle(0, 2, 1));
        CHECK.throwsIndex("command(0, 0)", () -> x.command(0, 0));
        CHECK.same("they are not joined yet", 0, x.bundle(0, 1, 1));
    }

    private static void bundleThrowsAheadOfNone() {
        CHECK.about("4: both exceptions, and NONE: the NODES first, then the length");
        HarnessRows x = nodes(2);
        x.bundle(0, 1, 1);
        CHECK.throwsIndex("bundle(0, 2, 0)", () -> x.bundle(0, 2, 0));
        CHECK.throwsIndex("bundle(-1, -1, 100001)", () -> x.bundle(-1, -1, 100_001));
        CHECK.throwsArgument("bundle(0, 0, 0)", () -> x.bundle(0, 0, 0));
        CHECK.throwsArgument("bundle(1, 0, 100001)", () -> x.bundle(1, 0, 100_001));
    }

    private static void commandOfConnectorsAndPlainNodes() {
        CHECK.about("19: C, or N of a plain one, and the number of its first NODE, a minus, the same of its other one");
        HarnessRows x = new HarnessRows();
        x.connector(1);
        x.connector(16);
        x.node();
        x.node();
        x.bundle(0, 1, 1);
        x.bundle(1, 2, 2);
        x.bundle(2, 3, 3);
        sameCommand(x, 0, "C0-C1 1");
        sameCommand(x, 1, "C1-N2 2");
        sameCommand(x, 2, "N2-N3 3");
        sameCommand(x, 0, "C0-C1 1");
    }

    private static void commandKeepsTheOrderOfTheNodes() {
        CHECK.about("19: its first NODE, its other one: as they were told");
        HarnessRows x = new HarnessRows();
        x.connector(2);
        x.node();
        x.bundle(1, 0, 44);
        sameCommand(x, 0, "N1-C0 44");
        x.bundle(0, 1, 55);
        sameCommand(x, 0, "N1-C0 44");
    }

    private static void commandOfTheShortestAndTheLongest() {
        CHECK.about("19: a space, its length");
        HarnessRows x = nodes(14);
        x.connector(16);
        x.connector(1);
        long[] lengths = {1, 9, 10, 99, 100, 307, 10_000, 99_999};
        for (int i = 0; i < lengths.length; i++) {
            x.bundle(i, i + 1, lengths[i]);
            sameCommand(x, i, "N" + i + "-N" + (i + 1) + " " + lengths[i]);
        }
        x.bundle(14, 15, 100_000);
        sameCommand(x, 8, "C14-C15 100000");
        x.bundle(9, 10, 1);
        sameCommand(x, 9, "N9-N10 1");
    }

    private static void commandOfFifteenBundles() {
        CHECK.about("19: BUNDLE k's command: full, the last of 15");
        HarnessRows x = nodes(16);
        for (int i = 0; i < 15; i++) {
            x.bundle(15, i, 1000 + i);
        }
        sameCommand(x, 14, "N15-N14 1014");
        sameCommand(x, 0, "N15-N0 1000");
        CHECK.throwsIndex("command(15, 0)", () -> x.command(15, 0));
    }

    private static void sameCommand(HarnessRows x, int bundle, String want) {
        for (int i = 0; i < want.length(); i++) {
            CHECK.same("command(" + bundle + ", " + i + ")", want.charAt(i), x.command(bundle, i));
        }
        CHECK.same("behind command " + bundle, -1, x.command(bundle, want.length()));
    }

    private static void commandIsNoneBehindIt() {
        CHECK.about("19: NONE behind it");
        HarnessRows x = nodes(2);
        x.bundle(0, 1, 5);
        CHECK.same("its last character", '5', x.command(0, 6));
        CHECK.same("behind it", -1, x.command(0, 7));
        CHECK.same("far behind it", -1, x.command(0, 1000));
        CHECK.same("MAX", -1, x.command(0, Integer.MAX_VALUE));
    }

    private static void commandRefusesOtherBundles() {
        CHECK.about("19: IndexOutOfBoundsException, when there is no such BUNDLE");
        HarnessRows x = nodes(2);
        CHECK.throwsIndex("command(0, 0) without bundles", () -> x.command(0, 0));
        x.bundle(0, 1, 5);
        CHECK.same("command(0, 0)", 'N', x.command(0, 0));
        for (int wrong : new int[] {-1, 1, 15, Integer.MIN_VALUE, Integer.MAX_VALUE}) {
            CHECK.throwsIndex("command(" + wrong + ", 0)", () -> x.command(wrong, 0));
            CHECK.throwsIndex("command(" + wrong + ", 99)", () -> x.command(wrong, 99));
        }
    }

    private static void commandRefusesAnIndexBelowZero() {
        CHECK.about("19: IndexOutOfBoundsException, when i is below 0");
        HarnessRows x = nodes(2);
        x.bundle(0, 1, 5);
        CHECK.throwsIndex("command(0, -1)", () -> x.command(0, -1));
        CHECK.throwsIndex("command(0, MIN)", () -> x.command(0, Integer.MIN_VALUE));
        CHECK.same("command(0, 0) behind it", 'N', x.command(0, 0));
    }
}
