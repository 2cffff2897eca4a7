/** Promises 1 to 4 and 19: a new object, connectors, nodes, bundles, commands. */
public final class NodesTest {
    private static final Check CHECK = new Check();

    public static void main(String[] args) {
        newObjectIsEmpty();
        connectorsAreNumberedAndBounded();
        sixteenNodesAtMost();
        bundlesNeverMakeARing();
        bundleRefusesWrongInputs();
        commandIsWritten();
        commandOfLongNumbers();
        commandRefusesWrongInputs();
        CHECK.end();
    }

    private static void newObjectIsEmpty() {
        HarnessRows x = new HarnessRows();
        CHECK.same("NONE", -1, HarnessRows.NONE);
        CHECK.throwsIndex("new bundle(0, 0, 1)", () -> x.bundle(0, 0, 1));
        CHECK.throwsIndex("new wire(0, 0, 0, 0)", () -> x.wire(0, 0, 0, 0));
        CHECK.throwsIndex("new load(0, 0, 0)", () -> Check.number(x.load(0, 0, 0)));
        CHECK.throwsIndex("new gauge(0)", () -> x.gauge(0));
        CHECK.throwsIndex("new length(0)", () -> x.length(0));
        CHECK.throwsIndex("new reelOf(0)", () -> x.reelOf(0));
        CHECK.throwsIndex("new splice(0, 0)", () -> x.splice(0, 0));
        CHECK.throwsIndex("new joined(0, 0, 0, 0)", () -> Check.number(x.joined(0, 0, 0, 0)));
        CHECK.throwsIndex("new colour(0)", () -> x.colour(0));
        CHECK.throwsIndex("new has(0, 0, true)", () -> Check.number(x.has(0, 0, true)));
        CHECK.throwsIndex("new command(0, 0)", () -> x.command(0, 0));
        CHECK.same("new told(0, 0)", -1, x.told(0, 0));
        CHECK.same("new reel(1)", 0, x.reel(1));
        CHECK.no("new slack(0, 1)", x.slack(0, 1));
        CHECK.same("new connector(1)", 0, x.connector(1));
        CHECK.same("new variant()", 0, x.variant());
        CHECK.same("another object's node()", 0, new HarnessRows().node());
    }

    private static void connectorsAreNumberedAndBounded() {
        HarnessRows x = new HarnessRows();
        CHECK.throwsArgument("connector(0)", () -> x.connector(0));
        CHECK.throwsArgument("connector(-1)", () -> x.connector(-1));
        CHECK.throwsArgument("connector(17)", () -> x.connector(17));
        CHECK.throwsArgument("connector(MIN)", () -> x.connector(Integer.MIN_VALUE));
        CHECK.throwsArgument("connector(MAX)", () -> x.connector(Integer.MAX_VALUE));
        CHECK.same("connector(1)", 0, x.connector(1));
        CHECK.same("connector(16)", 1, x.connector(16));
        CHECK.same("node()", 2, x.node());
        CHECK.same("cavity 15 of 16", 0, x.wire(0, 0, 1, 15));
        CHECK.throwsIndex("cavity 16 of 16", () -> x.wire(1, 0, 1, 16));
        CHECK.throwsIndex("cavity 1 of 1", () -> x.wire(0, 1, 1, 0));
    }

    private static void sixteenNodesAtMost() {
        HarnessRows x = new HarnessRows();
        for (int i = 0; i < 16; i++) {
            CHECK.same("node " + i, i, i % 2 == 0 ? x.node() : x.connector(3));
        }
        CHECK.same("a 17th node()", -1, x.node());
        CHECK.same("a 17th connector(3)", -1, x.connector(3));
        CHECK.throwsArgument("connector(17) with 16 nodes", () -> x.connector(17));
        CHECK.throwsIndex("bundle to node 16", () -> x.bundle(0, 16, 1));
        CHECK.same("bundle(0, 15, 1)", 0, x.bundle(0, 15, 1));
    }

    private static void bundlesNeverMakeARing() {
        HarnessRows x = new HarnessRows();
        for (int i = 0; i < 16; i++) {
            x.node();
        }
        CHECK.same("bundle(0, 0, 1)", -1, x.bundle(0, 0, 1));
        for (int i = 1; i < 8; i++) {
            CHECK.same("bundle " + (i - 1), i - 1, x.bundle(i, i - 1, 1));
            CHECK.same("bundle " + (i + 6), -1, x.bundle(i - 1, i, 1));
        }
        for (int i = 9; i < 16; i++) {
            CHECK.same("bundle " + (i - 2), i - 2, x.bundle(8, i, 100_000));
        }
        CHECK.same("far ends of one tree", -1, x.bundle(0, 7, 5));
        CHECK.same("leaves of one tree", -1, x.bundle(9, 15, 5));
        CHECK.same("leaves of two trees", 14, x.bundle(0, 15, 5));
        for (int a = 0; a < 16; a++) {
            for (int b = 0; b < 16; b++) {
                CHECK.same("all are joined " + a + " " + b, -1, x.bundle(a, b, 5));
            }
        }
    }

    private static void bundleRefusesWrongInputs() {
        HarnessRows x = new HarnessRows();
        x.node();
        x.node();
        CHECK.throwsIndex("bundle(-1, 0, 1)", () -> x.bundle(-1, 0, 1));
        CHECK.throwsIndex("bundle(0, -1, 1)", () -> x.bundle(0, -1, 1));
        CHECK.throwsIndex("bundle(2, 0, 1)", () -> x.bundle(2, 0, 1));
        CHECK.throwsIndex("bundle(0, 2, 1)", () -> x.bundle(0, 2, 1));
        CHECK.throwsIndex("bundle(0, 2, 0): the node first", () -> x.bundle(0, 2, 0));
        CHECK.throwsArgument("bundle(0, 1, 0)", () -> x.bundle(0, 1, 0));
        CHECK.throwsArgument("bundle(0, 1, -1)", () -> x.bundle(0, 1, -1));
        CHECK.throwsArgument("bundle(0, 1, 100001)", () -> x.bundle(0, 1, 100_001));
        CHECK.throwsArgument("bundle(0, 1, 2^32 + 1)", () -> x.bundle(0, 1, (1L << 32) + 1));
        CHECK.throwsArgument("bundle(0, 0, 0)", () -> x.bundle(0, 0, 0));
        CHECK.same("bundle(0, 1, 100000)", 0, x.bundle(0, 1, 100_000));
        CHECK.throwsArgument("bundle(1, 0, 0) when joined", () -> x.bundle(1, 0, 0));
    }

    private static void commandIsWritten() {
        HarnessRows x = new HarnessRows();
        x.connector(2);
        x.node();
        x.connector(1);
        x.bundle(0, 1, 1);
        x.bundle(2, 1, 100_000);
        sameCommand(x, 0, "C0-N1 1");
        sameCommand(x, 1, "C2-N1 100000");
        sameCommand(x, 0, "C0-N1 1");
    }

    private static void commandOfLongNumbers() {
        HarnessRows x = new HarnessRows();
        for (int i = 0; i < 14; i++) {
            x.node();
        }
        x.connector(16);
        x.connector(1);
        x.bundle(15, 14, 99_999);
        x.bundle(10, 14, 10);
        x.bundle(9, 10, 307);
        sameCommand(x, 0, "C15-C14 99999");
        sameCommand(x, 1, "N10-C14 10");
        sameCommand(x, 2, "N9-N10 307");
    }

    private static void sameCommand(HarnessRows x, int bundle, String want) {
        for (int i = 0; i < want.length(); i++) {
            CHECK.same("command(" + bundle + ", " + i + ")", want.charAt(i), x.command(bundle, i));
        }
        CHECK.same("behind command " + bundle, -1, x.command(bundle, want.length()));
        CHECK.same("far behind command " + bundle, -1, x.command(bundle, Integer.MAX_VALUE));
    }

    private static void commandRefusesWrongInputs() {
        HarnessRows x = new HarnessRows();
        x.node();
        x.node();
        x.bundle(0, 1, 5);
        CHECK.throwsIndex("command(1, 0)", () -> x.command(1, 0));
        CHECK.throwsIndex("command(-1, 0)", () -> x.command(-1, 0));
        CHECK.throwsIndex("command(0, -1)", () -> x.command(0, -1));
        CHECK.throwsIndex("command(0, MIN)", () -> x.command(0, Integer.MIN_VALUE));
        CHECK.throwsIndex("command(MAX, MAX)", () -> x.command(Integer.MAX_VALUE, Integer.MAX_VALUE));
    }
}
