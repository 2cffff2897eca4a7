/** Promises 13 and 14: splices and what is joined. */
public final class SplicesTest {
    private static final Check CHECK = new Check();

    public static void main(String[] args) {
        splicesAreCounted();
        twentySplicesAtMost();
        spliceRefusesWrongInputs();
        joinedByOneWire();
        joinedOverSplices();
        joinedRefusesWrongInputs();
        CHECK.end();
    }

    /** Two connectors; wire i goes from cavity i of the one to cavity i of the other. */
    private static HarnessRows rows(int wires) {
        HarnessRows x = new HarnessRows();
        x.connector(16);
        x.connector(16);
        for (int i = 0; i < wires; i++) {
            x.wire(0, i, 1, i);
        }
        return x;
    }

    private static void splicesAreCounted() {
        HarnessRows x = rows(4);
        CHECK.same("splice(0, 1)", 1, x.splice(0, 1));
        CHECK.same("splice(0, 1) again", -1, x.splice(0, 1));
        CHECK.same("splice(1, 0)", -1, x.splice(1, 0));
        CHECK.same("splice(2, 2)", -1, x.splice(2, 2));
        CHECK.same("splice(1, 2)", 2, x.splice(1, 2));
        CHECK.same("splice(0, 2), which are joined but not spliced", 3, x.splice(0, 2));
        CHECK.same("splice(3, 0)", 4, x.splice(3, 0));
        int[][] spliced = {{0, 1}, {1, 2}, {0, 2}, {3, 0}};
        for (int[] pair : spliced) {
            CHECK.same("spliced already", -1, x.splice(pair[0], pair[1]));
            CHECK.same("spliced already, turned", -1, x.splice(pair[1], pair[0]));
        }
    }

    private static void twentySplicesAtMost() {
        HarnessRows x = rows(16);
        int count = 0;
        for (int i = 1; i < 16; i++) {
            count++;
            CHECK.same("splice " + count, count, x.splice(0, i));
        }
        for (int i = 2; i < 7; i++) {
            count++;
            CHECK.same("splice " + count, count, x.splice(i, 1));
        }
        CHECK.same("a 21st splice", -1, x.splice(7, 1));
        CHECK.throwsIndex("splice(16, 0) with 20", () -> x.splice(16, 0));
        HarnessRows y = rows(16);
        for (int i = 0; i < 15; i++) {
            y.splice(i, i + 1);
        }
        CHECK.yes("over 15 splices", y.joined(0, 0, 1, 15));
    }

    private static void spliceRefusesWrongInputs() {
        HarnessRows x = rows(2);
        CHECK.throwsIndex("splice(-1, 0)", () -> x.splice(-1, 0));
        CHECK.throwsIndex("splice(0, -1)", () -> x.splice(0, -1));
        CHECK.throwsIndex("splice(2, 0)", () -> x.splice(2, 0));
        CHECK.throwsIndex("splice(0, 2)", () -> x.splice(0, 2));
        CHECK.throwsIndex("splice(2, 2)", () -> x.splice(2, 2));
        CHECK.same("splice(0, 1)", 1, x.splice(0, 1));
    }

    private static void joinedByOneWire() {
        HarnessRows x = rows(2);
        CHECK.yes("a cavity with itself", x.joined(0, 0, 0, 0));
        CHECK.yes("an empty cavity with itself", x.joined(0, 9, 0, 9));
        CHECK.yes("both ends", x.joined(0, 0, 1, 0));
        CHECK.yes("both ends, turned", x.joined(1, 1, 0, 1));
        CHECK.no("two wires", x.joined(0, 0, 1, 1));
        CHECK.no("two wires at one connector", x.joined(0, 0, 0, 1));
        CHECK.no("with an empty one", x.joined(0, 0, 1, 9));
        CHECK.no("an empty one with one", x.joined(1, 9, 0, 0));
        CHECK.no("two empty ones", x.joined(0, 9, 1, 9));
        x.bundle(0, 1, 5);
        CHECK.no("bundles do not join cavities", x.joined(0, 0, 1, 1));
    }

    private static void joinedOverSplices() {
        HarnessRows x = rows(6);
        x.splice(0, 1);
        x.splice(2, 3);
        CHECK.yes("0 and 1", x.joined(0, 0, 1, 1));
        CHECK.yes("2 and 3", x.joined(0, 2, 0, 3));
        CHECK.no("0 and 2", x.joined(0, 0, 1, 2));
        x.splice(3, 0);
        for (int i = 0; i < 4; i++) {
            for (int j = 0; j < 4; j++) {
                CHECK.yes("now " + i + " and " + j, x.joined(0, i, 1, j));
            }
            CHECK.no("but not 4 and " + i, x.joined(0, 4, 1, i));
        }
        CHECK.no("4 and 5", x.joined(0, 4, 0, 5));
        x.variant();
        x.has(0, 0, false);
        CHECK.yes("variants bear not on it", x.joined(0, 0, 1, 3));
    }

    private static void joinedRefusesWrongInputs() {
        HarnessRows x = rows(1);
        x.node();
        CHECK.throwsIndex("joined(-1, 0, 0, 0)", () -> Check.number(x.joined(-1, 0, 0, 0)));
        CHECK.throwsIndex("joined(3, 0, 0, 0)", () -> Check.number(x.joined(3, 0, 0, 0)));
        CHECK.throwsIndex("joined(0, 0, -1, 0)", () -> Check.number(x.joined(0, 0, -1, 0)));
        CHECK.throwsIndex("joined(0, 0, 3, 0)", () -> Check.number(x.joined(0, 0, 3, 0)));
        CHECK.throwsIndex("joined(0, 16, 0, 0)", () -> Check.number(x.joined(0, 16, 0, 0)));
        CHECK.throwsIndex("joined(0, 0, 1, 16)", () -> Check.number(x.joined(0, 0, 1, 16)));
        CHECK.throwsIndex("joined(0, -1, 0, 0)", () -> Check.number(x.joined(0, -1, 0, 0)));
        CHECK.throwsIndex("joined(0, 0, 0, -1)", () -> Check.number(x.joined(0, 0, 0, -1)));
        CHECK.throwsIndex("joined(2, 0, 2, 0)", () -> Check.number(x.joined(2, 0, 2, 0)));
        CHECK.throwsIndex("joined(0, 0, 2, 0)", () -> Check.number(x.joined(0, 0, 2, 0)));
    }
}
