/** Promises 16 to 18: variants, what they have, and what is told of them. */
public final class VariantsTest {
    private static final Check CHECK = new Check();

    public static void main(String[] args) {
        sixVariantsAtMost();
        hasTellsWhetherItWasOtherwise();
        variantsFollowTheOnesAhead();
        hasRefusesWrongInputs();
        toldGoesOverTheWiresThatAreOff();
        toldIsOfTheLatestVariant();
        toldRefusesOtherSides();
        CHECK.end();
    }

    private static HarnessRows rows(int wires) {
        HarnessRows x = new HarnessRows();
        x.connector(16);
        x.node();
        x.connector(16);
        for (int i = 0; i < wires; i++) {
            x.wire(0, i, 2, 15 - i);
        }
        return x;
    }

    private static void sixVariantsAtMost() {
        HarnessRows x = new HarnessRows();
        for (int i = 0; i < 6; i++) {
            CHECK.same("variant " + i, i, x.variant());
        }
        CHECK.same("a 7th variant", -1, x.variant());
        CHECK.same("an 8th variant", -1, x.variant());
        CHECK.throwsIndex("has(6, ..)", () -> Check.number(x.has(6, 0, true)));
    }

    private static void hasTellsWhetherItWasOtherwise() {
        HarnessRows x = rows(2);
        x.variant();
        CHECK.no("all are on at first", x.has(0, 0, true));
        CHECK.yes("off", x.has(0, 0, false));
        CHECK.no("off again", x.has(0, 0, false));
        CHECK.yes("on", x.has(0, 0, true));
        CHECK.no("another wire", x.has(0, 1, true));
        x.wire(0, 2, 0, 3);
        CHECK.no("a wire told later", x.has(0, 2, true));
        CHECK.yes("a wire told later off", x.has(0, 2, false));
    }

    private static void variantsFollowTheOnesAhead() {
        HarnessRows x = rows(4);
        x.variant();
        x.has(0, 0, false);
        x.variant();
        x.variant();
        CHECK.no("off as in the first", x.has(2, 0, false));
        x.has(0, 0, true);
        CHECK.no("told of it, though it was so: off", x.has(2, 0, false));
        CHECK.no("the one between follows the first", x.has(1, 0, true));
        x.has(0, 1, false);
        CHECK.same("told later of the first", 1, x.told(1, 0));
        x.has(1, 1, true);
        CHECK.same("the nearest one ahead counts", -1, x.told(1, 0));
        CHECK.no("on by the nearest one", x.has(2, 1, true));
        x.has(1, 1, false);
        CHECK.same("what was told of it stays", -1, x.told(1, 0));
        x.has(2, 3, false);
        CHECK.no("the ones ahead do not follow", x.has(1, 3, true));
        CHECK.no("nor the first", x.has(0, 3, true));
        CHECK.yes("it was off itself", x.has(2, 3, true));
    }

    private static void hasRefusesWrongInputs() {
        HarnessRows x = rows(1);
        CHECK.throwsIndex("has(0, 0, ..) without variants", () -> Check.number(x.has(0, 0, true)));
        x.variant();
        CHECK.throwsIndex("has(1, 0, ..)", () -> Check.number(x.has(1, 0, true)));
        CHECK.throwsIndex("has(-1, 0, ..)", () -> Check.number(x.has(-1, 0, true)));
        CHECK.throwsIndex("has(0, 1, ..)", () -> Check.number(x.has(0, 1, true)));
        CHECK.throwsIndex("has(0, -1, ..)", () -> Check.number(x.has(0, -1, false)));
    }

    private static void toldGoesOverTheWiresThatAreOff() {
        HarnessRows x = rows(16);
        CHECK.same("no variant", -1, x.told(0, 0));
        x.variant();
        CHECK.same("all are on", -1, x.told(0, 1));
        x.has(0, 13, false);
        x.has(0, 0, false);
        x.has(0, 5, false);
        CHECK.same("told(0, 0)", 0, x.told(0, 0));
        CHECK.same("told(0, 1)", 32 + 15, x.told(0, 1));
        CHECK.same("told(1, 0)", 5, x.told(1, 0));
        CHECK.same("told(1, 1)", 32 + 10, x.told(1, 1));
        CHECK.same("told(2, 0)", 13, x.told(2, 0));
        CHECK.same("told(2, 1)", 32 + 2, x.told(2, 1));
        CHECK.same("told(3, 0)", -1, x.told(3, 0));
        CHECK.same("told(-1, 0)", -1, x.told(-1, 0));
        CHECK.same("told(MIN, 1)", -1, x.told(Integer.MIN_VALUE, 1));
        CHECK.same("told(MAX, 1)", -1, x.told(Integer.MAX_VALUE, 1));
    }

    private static void toldIsOfTheLatestVariant() {
        HarnessRows x = rows(3);
        x.variant();
        x.has(0, 1, false);
        x.variant();
        CHECK.same("as in the one ahead", 1, x.told(0, 0));
        x.has(1, 1, true);
        x.has(1, 2, false);
        CHECK.same("of the latest", 2, x.told(0, 0));
        CHECK.same("of the latest only", -1, x.told(1, 0));
        x.has(0, 0, false);
        CHECK.same("by what is told of the one ahead", 0, x.told(0, 0));
        CHECK.same("and of itself", 2, x.told(1, 0));
    }

    private static void toldRefusesOtherSides() {
        HarnessRows x = rows(1);
        CHECK.throwsIndex("told(0, 2) without variants", () -> x.told(0, 2));
        x.variant();
        x.has(0, 0, false);
        CHECK.throwsIndex("told(0, 2)", () -> x.told(0, 2));
        CHECK.throwsIndex("told(0, -1)", () -> x.told(0, -1));
        CHECK.throwsIndex("told(-1, 2)", () -> x.told(-1, 2));
        CHECK.throwsIndex("told(9, MAX)", () -> x.told(9, Integer.MAX_VALUE));
    }
}
