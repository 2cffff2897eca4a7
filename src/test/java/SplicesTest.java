/** Promises 13 and 14: splices and what is joined. */
public final class SplicesTest {
    private static final Check CHECK = new Check();

    public static void main(String[] args) {
        splicesAreCounted();
        spliceOfOneWireIsNone();
        spliceOfSplicedWiresIsNone();
        spliceOfWiresJoinedOverOthersIsNew();
        spliceIsNoneWithTwenty();
        spliceThatIsNoneIsNotCounted();
        spliceOfTheLastWires();
        spliceRefusesOtherWires();
        spliceThrowsAheadOfNone();
        joinedWithItself();
        joinedByAWire();
        notJoinedWithoutAWire();
        joinedByASplice();
        joinedOverSeveralSplices();
        joinedOverTwentySplices();
        notJoinedByASpliceThatIsNone();
        notJoinedByBundlesOrReels();
        joinedInAllVariants();
        joinedRefusesOtherNodes();
        joinedRefusesOtherCavities();
        joinedRefusesPlainNodes();
        CHECK.end();
    }

    /** Two connectors; wire i goes from cavity i of the one to cavity i of the other. */
    private static HarnessRows rows(int wires) {
        HarnessRows x = new HarnessRows();
        x.connector(16);
        x.connector(16);
        for (int i = 0; i < wires; i++) {
            x.wire(0, i, 1, i);
        }
        return x;
    }

    /** 24 wires: i goes from cavity i % 12 of connector 0 or 2 to the same of the next one. */
    private static HarnessRows fullRows() {
        HarnessRows x = new HarnessRows();
        for (int i = 0; i < 4; i++) {
            x.connector(12);
        }
        for (int i = 0; i < 24; i++) {
            x.wire(i / 12 * 2, i % 12, i / 12 * 2 + 1, i % 12);
        }
        return x;
    }

    private static void splicesAreCounted() {
        CHECK.about("13: Two WIRES are spliced: how many splices there are with it");
        HarnessRows x = rows(4);
        CHECK.same("the first", 1, x.splice(0, 1));
        CHECK.same("the second", 2, x.splice(3, 2));
        CHECK.same("the third", 3, x.splice(1, 2));
    }

    private static void spliceOfOneWireIsNone() {
        CHECK.about("13: NONE, when they are one");
        HarnessRows x = rows(2);
        CHECK.same("splice(0, 0)", -1, x.splice(0, 0));
        CHECK.same("splice(1, 1)", -1, x.splice(1, 1));
        x.splice(0, 1);
        CHECK.same("splice(1, 1) of a spliced one", -1, x.splice(1, 1));
    }

    private static void spliceOfSplicedWiresIsNone() {
        CHECK.about("13: NONE, when they are spliced already");
        HarnessRows x = rows(4);
        int[][] pairs = {{0, 1}, {1, 2}, {3, 0}};
        for (int[] pair : pairs) {
            x.splice(pair[0], pair[1]);
        }
        for (int[] pair : pairs) {
            CHECK.same("splice(" + pair[0] + ", " + pair[1] + ")", -1, x.splice(pair[0], pair[1]));
            CHECK.same("splice(" + pair[1] + ", " + pair[0] + ")", -1, x.splice(pair[1], pair[0]));
        }
    }

    private static void spliceOfWiresJoinedOverOthersIsNew() {
        CHECK.about("13: spliced already: not over others");
        HarnessRows x = rows(3);
        x.splice(0, 1);
        x.splice(1, 2);
        CHECK.same("splice(0, 2)", 3, x.splice(0, 2));
        CHECK.same("splice(2, 0) now", -1, x.splice(2, 0));
    }

    private static void spliceIsNoneWithTwenty() {
        CHECK.about("13: NONE, when there are 20");
        HarnessRows x = rows(16);
        int count = 0;
        for (int i = 1; i < 16; i++) {
            count++;
            CHECK.same("splice " + count, count, x.splice(0, i));
        }
        for (int i = 2; i < 7; i++) {
            count++;
            CHECK.same("splice " + count, count, x.splice(i, 1));
        }
        CHECK.same("a 21st", -1, x.splice(7, 1));
        CHECK.same("a 21st again", -1, x.splice(7, 1));
        CHECK.same("another 21st", -1, x.splice(14, 15));
        CHECK.same("one that is spliced already", -1, x.splice(0, 1));
    }

    private static void spliceThatIsNoneIsNotCounted() {
        CHECK.about("13: how many splices there are: a refused one is none");
        HarnessRows x = rows(3);
        x.splice(0, 0);
        CHECK.throwsIndex("splice(0, 3)", () -> x.splice(0, 3));
        CHECK.same("the first", 1, x.splice(0, 1));
        x.splice(1, 0);
        CHECK.same("the second", 2, x.splice(0, 2));
    }

    private static void spliceOfTheLastWires() {
        CHECK.about("13: Two WIRES are spliced: the last of 24");
        HarnessRows x = fullRows();
        CHECK.same("splice(23, 0)", 1, x.splice(23, 0));
        CHECK.same("splice(0, 23)", -1, x.splice(0, 23));
        CHECK.same("splice(22, 23)", 2, x.splice(22, 23));
        CHECK.yes("22 and 0", x.joined(2, 10, 0, 0));
        CHECK.no("22 and 21", x.joined(2, 10, 2, 9));
    }

    private static void spliceRefusesOtherWires() {
        CHECK.about("13: IndexOutOfBoundsException, when there are no such WIRES");
        HarnessRows x = rows(2);
        for (int wrong : new int[] {-1, 2, 24, 32, Integer.MIN_VALUE, Integer.MAX_VALUE}) {
            CHECK.throwsIndex("splice(" + wrong + ", 0)", () -> x.splice(wrong, 0));
            CHECK.throwsIndex("splice(0, " + wrong + ")", () -> x.splice(0, wrong));
        }
        CHECK.same("the last one", 1, x.splice(0, 1));
        HarnessRows y = fullRows();
        CHECK.throwsIndex("splice(24, 0) of 24", () -> y.splice(24, 0));
        CHECK.throwsIndex("splice(0, 32) of 24", () -> y.splice(0, 32));
    }

    private static void spliceThrowsAheadOfNone() {
        CHECK.about("13: an exception, and NONE: the WIRES first");
        HarnessRows x = rows(7);
        CHECK.throwsIndex("they are one that is not there", () -> x.splice(7, 7));
        for (int a = 0; a < 7; a++) {
            for (int b = 0; b < a; b++) {
                x.splice(a, b);
            }
        }
        CHECK.throwsIndex("with 20", () -> x.splice(7, 0));
        CHECK.throwsIndex("with 20, -1", () -> x.splice(0, -1));
    }

    private static void joinedWithItself() {
        CHECK.about("14: one is joined with itself");
        HarnessRows x = rows(1);
        CHECK.yes("with a wire", x.joined(0, 0, 0, 0));
        CHECK.yes("without a wire", x.joined(0, 15, 0, 15));
        CHECK.yes("without a wire", x.joined(1, 9, 1, 9));
    }

    private static void joinedByAWire() {
        CHECK.about("14: Whether two CAVITIES are joined by WIRES");
        HarnessRows x = rows(3);
        x.wire(0, 14, 0, 15);
        CHECK.yes("both ends", x.joined(0, 0, 1, 0));
        CHECK.yes("both ends, turned", x.joined(1, 2, 0, 2));
        CHECK.yes("of one connector", x.joined(0, 14, 0, 15));
        CHECK.no("two wires, at both connectors", x.joined(0, 0, 1, 1));
        CHECK.no("two wires, at one connector", x.joined(0, 0, 0, 1));
    }

    private static void notJoinedWithoutAWire() {
        CHECK.about("14: Whether two CAVITIES are joined: without a WIRE");
        HarnessRows x = new HarnessRows();
        x.connector(2);
        x.connector(2);
        CHECK.no("two of one connector", x.joined(0, 0, 0, 1));
        CHECK.no("two of one number", x.joined(0, 0, 1, 0));
        x.wire(0, 0, 1, 0);
        CHECK.no("one with a wire, one without", x.joined(0, 0, 1, 1));
        CHECK.no("one without, one with a wire", x.joined(0, 1, 1, 0));
        CHECK.no("two without", x.joined(0, 1, 1, 1));
    }

    private static void joinedByASplice() {
        CHECK.about("14: Whether two CAVITIES are joined by WIRES and splices");
        HarnessRows x = rows(3);
        x.splice(0, 2);
        for (int a = 0; a < 2; a++) {
            for (int b = 0; b < 2; b++) {
                CHECK.yes("0 and 2", x.joined(a, 0, b, 2));
                CHECK.yes("2 and 0", x.joined(a, 2, b, 0));
                CHECK.no("0 and 1", x.joined(a, 0, b, 1));
                CHECK.no("1 and 2", x.joined(a, 1, b, 2));
            }
        }
    }

    private static void joinedOverSeveralSplices() {
        CHECK.about("14: joined by WIRES and splices: over several");
        HarnessRows x = rows(6);
        x.splice(0, 1);
        x.splice(2, 3);
        CHECK.no("two that are not joined yet", x.joined(0, 1, 1, 2));
        x.splice(3, 0);
        for (int i = 0; i < 4; i++) {
            for (int j = 0; j < 4; j++) {
                CHECK.yes("now " + i + " and " + j, x.joined(0, i, 1, j));
            }
            CHECK.no("but not 4 and " + i, x.joined(0, 4, 1, i));
        }
        CHECK.no("4 and 5", x.joined(0, 4, 0, 5));
    }

    private static void joinedOverTwentySplices() {
        CHECK.about("14: joined by WIRES and splices: full, over 20");
        HarnessRows x = fullRows();
        for (int i = 0; i < 20; i++) {
            CHECK.same("splice " + i, i + 1, x.splice(i, i + 1));
        }
        CHECK.yes("0 and 20", x.joined(0, 0, 3, 8));
        CHECK.no("20 and 21", x.joined(3, 8, 3, 9));
        CHECK.same("a 21st", -1, x.splice(20, 21));
        CHECK.no("20 and 21, still", x.joined(3, 8, 3, 9));
    }

    private static void notJoinedByASpliceThatIsNone() {
        CHECK.about("14: joined by splices: a refused one is none");
        HarnessRows x = rows(2);
        x.splice(0, 0);
        CHECK.throwsIndex("splice(1, 2)", () -> x.splice(1, 2));
        x.wire(0, 2, 1, 2);
        CHECK.no("0 and 1", x.joined(0, 0, 0, 1));
        CHECK.no("1 and 2", x.joined(0, 1, 0, 2));
    }

    private static void notJoinedByBundlesOrReels() {
        CHECK.about("14: joined by WIRES and splices: by nothing else");
        HarnessRows x = rows(2);
        x.bundle(0, 1, 5);
        x.reel(100);
        CHECK.no("0 and 1", x.joined(0, 0, 0, 1));
        CHECK.no("two without a wire", x.joined(0, 9, 1, 9));
    }

    private static void joinedInAllVariants() {
        CHECK.about("14: joined by WIRES and splices: variants bear not on it");
        HarnessRows x = rows(2);
        x.splice(0, 1);
        x.variant();
        x.has(0, 0, false);
        x.has(0, 1, false);
        CHECK.yes("by a wire that is off", x.joined(0, 0, 1, 0));
        CHECK.yes("by two that are off", x.joined(0, 0, 1, 1));
    }

    private static void joinedRefusesOtherNodes() {
        CHECK.about("14: IndexOutOfBoundsException, when there are no such NODES");
        HarnessRows x = rows(1);
        for (int wrong : new int[] {-1, 2, 16, Integer.MIN_VALUE, Integer.MAX_VALUE}) {
            CHECK.throwsIndex("joined(" + wrong + ", 0, 0, 0)", () -> Check.number(x.joined(wrong, 0, 0, 0)));
            CHECK.throwsIndex("joined(0, 0, " + wrong + ", 0)", () -> Check.number(x.joined(0, 0, wrong, 0)));
            CHECK.throwsIndex("both " + wrong, () -> Check.number(x.joined(wrong, 0, wrong, 0)));
        }
    }

    private static void joinedRefusesOtherCavities() {
        CHECK.about("14: IndexOutOfBoundsException, when there are no such CAVITIES");
        HarnessRows x = rows(1);
        x.connector(3);
        for (int wrong : new int[] {-1, 16, Integer.MIN_VALUE, Integer.MAX_VALUE}) {
            CHECK.throwsIndex("joined(0, " + wrong + ", 0, 0)", () -> Check.number(x.joined(0, wrong, 0, 0)));
            CHECK.throwsIndex("joined(0, 0, 1, " + wrong + ")", () -> Check.number(x.joined(0, 0, 1, wrong)));
            CHECK.throwsIndex("both " + wrong, () -> Check.number(x.joined(1, wrong, 1, wrong)));
        }
        CHECK.throwsIndex("cavity 3 of 3", () -> Check.number(x.joined(2, 3, 2, 3)));
        CHECK.yes("cavity 2 of 3", x.joined(2, 2, 2, 2));
        CHECK.no("cavity 15 of 16", x.joined(0, 15, 1, 15));
    }

    private static void joinedRefusesPlainNodes() {
        CHECK.about("14: IndexOutOfBoundsException, when there are no such CAVITIES: of plain NODES");
        HarnessRows x = rows(1);
        x.node();
        CHECK.throwsIndex("joined(2, 0, 0, 0)", () -> Check.number(x.joined(2, 0, 0, 0)));
        CHECK.throwsIndex("joined(0, 0, 2, 0)", () -> Check.number(x.joined(0, 0, 2, 0)));
        CHECK.throwsIndex("joined(2, 0, 2, 0)", () -> Check.number(x.joined(2, 0, 2, 0)));
    }
}
