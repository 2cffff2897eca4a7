/** Promises 16 to 18: variants, what they have, and what is told of them. */
public final class VariantsTest {
    private static final Check CHECK = new Check();

    public static void main(String[] args) {
        variantsAreNumberedFromZero();
        variantIsNoneWithSix();
        theFirstHasAll();
        theFirstHasThoseToldLater();
        aVariantIsAsTheOneAheadOfIt();
        aVariantFollowsWhatIsToldLaterOfTheOneAhead();
        untilToldOtherwise();
        hasTellsWhetherItWasOtherwise();
        hasIsAsToldOfIt();
        hasIsAsToldOfTheNearestAhead();
        hasIsNotAsToldOfOnesBehind();
        hasOfTheLastWireInTheLastVariant();
        hasRefusesOtherVariants();
        hasRefusesOtherWires();
        hasRefusedTellsNothing();
        toldWithoutVariants();
        toldWhenAllAreOn();
        toldIsRising();
        toldOfBothEnds();
        toldIsNoneBehindTheLast();
        toldIsNoneBelowZero();
        toldOfAllTwentyFour();
        toldIsOfTheLatestVariant();
        toldOfTheSixthVariant();
        toldRefusesOtherSides();
        CHECK.end();
    }

    /** Wire i goes from cavity i of connector 0 to cavity 15 - i of connector 2; node 1 is plain. */
    private static HarnessRows rows(int wires) {
        HarnessRows x = new HarnessRows();
        x.connector(16);
        x.node();
        x.connector(16);
        for (int i = 0; i < wires; i++) {
            x.wire(0, i, 2, 15 - i);
        }
        return x;
    }

    private static void variantsAreNumberedFromZero() {
        CHECK.about("16: A new variant, numbered from 0: its number");
        HarnessRows x = new HarnessRows();
        for (int i = 0; i < 6; i++) {
            CHECK.same("variant " + i, i, x.variant());
        }
    }

    private static void variantIsNoneWithSix() {
        CHECK.about("16: NONE when there are 6");
        HarnessRows x = rows(1);
        for (int i = 0; i < 5; i++) {
            x.variant();
        }
        CHECK.same("with 5", 5, x.variant());
        CHECK.same("with 6", -1, x.variant());
        CHECK.same("with 6, again", -1, x.variant());
        CHECK.throwsIndex("has(6, 0, true)", () -> Check.number(x.has(6, 0, true)));
        CHECK.yes("has(5, 0, false)", x.has(5, 0, false));
        CHECK.same("the sixth is still the latest", 0, x.told(0, 0));
    }

    private static void theFirstHasAll() {
        CHECK.about("16: the first one has all");
        HarnessRows x = rows(16);
        x.variant();
        for (int i = 0; i < 16; i++) {
            CHECK.no("wire " + i + " is on", x.has(0, i, true));
        }
        CHECK.same("none is off", -1, x.told(0, 0));
    }

    private static void theFirstHasThoseToldLater() {
        CHECK.about("16: the first one has all (also those told later)");
        HarnessRows x = rows(0);
        x.variant();
        x.wire(0, 0, 0, 1);
        CHECK.same("it is not off", -1, x.told(0, 0));
        CHECK.no("it is on", x.has(0, 0, true));
        x.variant();
        x.wire(0, 2, 0, 3);
        CHECK.no("as in the one ahead", x.has(1, 1, true));
        CHECK.no("in the one ahead too", x.has(0, 1, true));
    }

    private static void aVariantIsAsTheOneAheadOfIt() {
        CHECK.about("16: all WIRES are as in the one ahead of it");
        HarnessRows x = rows(3);
        x.variant();
        x.has(0, 1, false);
        for (int i = 1; i < 6; i++) {
            x.variant();
            CHECK.same("off in " + i, 1, x.told(0, 0));
            CHECK.same("no other in " + i, -1, x.told(1, 0));
        }
        CHECK.no("off in the last", x.has(5, 1, false));
        CHECK.no("on in the last", x.has(5, 0, true));
    }

    private static void aVariantFollowsWhatIsToldLaterOfTheOneAhead() {
        CHECK.about("16: all WIRES are as in the one ahead of it: also by what is told of that later");
        HarnessRows x = rows(3);
        x.variant();
        x.variant();
        x.variant();
        x.has(0, 2, false);
        CHECK.same("off", 2, x.told(0, 0));
        x.has(1, 2, true);
        CHECK.same("on", -1, x.told(0, 0));
        x.has(0, 2, true);
        x.has(1, 2, false);
        CHECK.same("off again", 2, x.told(0, 0));
    }

    private static void untilToldOtherwise() {
        CHECK.about("16: until told otherwise");
        HarnessRows x = rows(2);
        x.variant();
        x.has(0, 0, false);
        x.variant();
        CHECK.yes("has(1, 0, true)", x.has(1, 0, true));
        x.has(0, 0, true);
        x.has(0, 0, false);
        CHECK.same("it stays on", -1, x.told(0, 0));
        CHECK.no("the one ahead stays off", x.has(0, 0, false));
    }

    private static void hasTellsWhetherItWasOtherwise() {
        CHECK.about("17: whether it was otherwise");
        HarnessRows x = rows(2);
        x.variant();
        CHECK.no("on, was on", x.has(0, 0, true));
        CHECK.yes("off, was on", x.has(0, 0, false));
        CHECK.no("off, was off", x.has(0, 0, false));
        CHECK.yes("on, was off", x.has(0, 0, true));
        CHECK.yes("another wire: off, was on", x.has(0, 1, false));
        CHECK.no("it bears not on the first", x.has(0, 0, true));
    }

    private static void hasIsAsToldOfIt() {
        CHECK.about("17: as told of it: also if it was so already");
        HarnessRows x = rows(2);
        x.variant();
        x.has(0, 0, false);
        x.variant();
        CHECK.no("has(1, 0, false): as ahead", x.has(1, 0, false));
        x.has(0, 0, true);
        CHECK.no("it stays off", x.has(1, 0, false));
        CHECK.no("has(1, 1, true): as ahead", x.has(1, 1, true));
        x.has(0, 1, false);
        CHECK.no("it stays on", x.has(1, 1, true));
    }

    private static void hasIsAsToldOfTheNearestAhead() {
        CHECK.about("17: or of the nearest one ahead of it of which it was told, or on");
        HarnessRows x = rows(4);
        for (int i = 0; i < 4; i++) {
            x.variant();
        }
        CHECK.no("told of none: on", x.has(3, 0, true));
        x.has(0, 1, false);
        CHECK.no("told of the farthest: off", x.has(3, 1, false));
        x.has(0, 2, false);
        x.has(1, 2, true);
        CHECK.no("told of a nearer one: on", x.has(3, 2, true));
        x.has(2, 3, false);
        x.has(1, 3, true);
        CHECK.no("the nearest, not the latest told: off", x.has(3, 3, false));
    }

    private static void hasIsNotAsToldOfOnesBehind() {
        CHECK.about("17: the nearest one ahead of it: not behind it");
        HarnessRows x = rows(1);
        x.variant();
        x.variant();
        x.variant();
        x.has(2, 0, false);
        CHECK.no("variant 1 has it on", x.has(1, 0, true));
        CHECK.no("variant 0 has it on", x.has(0, 0, true));
        CHECK.no("variant 2 has it off", x.has(2, 0, false));
    }

    private static void hasOfTheLastWireInTheLastVariant() {
        CHECK.about("17: Of a variant, whether a WIRE is on: the last of both");
        HarnessRows x = fullRows();
        for (int i = 0; i < 6; i++) {
            x.variant();
        }
        CHECK.yes("off", x.has(5, 23, false));
        CHECK.no("off again", x.has(5, 23, false));
        CHECK.no("the one ahead has it on", x.has(4, 23, true));
        CHECK.no("wire 22 is on", x.has(5, 22, true));
        CHECK.yes("on", x.has(5, 23, true));
    }

    private static void hasRefusesOtherVariants() {
        CHECK.about("17: IndexOutOfBoundsException, when there is no such variant");
        HarnessRows x = rows(1);
        CHECK.throwsIndex("has(0, 0, true) without variants", () -> Check.number(x.has(0, 0, true)));
        x.variant();
        CHECK.no("has(0, 0, true)", x.has(0, 0, true));
        for (int wrong : new int[] {-1, 1, 5, 6, Integer.MIN_VALUE, Integer.MAX_VALUE}) {
            CHECK.throwsIndex("has(" + wrong + ", 0, true)", () -> Check.number(x.has(wrong, 0, true)));
        }
    }

    private static void hasRefusesOtherWires() {
        CHECK.about("17: IndexOutOfBoundsException, when there is no such WIRE");
        HarnessRows x = rows(1);
        x.variant();
        for (int wrong : new int[] {-1, 1, 24, 32, Integer.MIN_VALUE, Integer.MAX_VALUE}) {
            CHECK.throwsIndex("has(0, " + wrong + ", false)", () -> Check.number(x.has(0, wrong, false)));
            CHECK.throwsIndex("has(0, " + wrong + ", true)", () -> Check.number(x.has(0, wrong, true)));
        }
        CHECK.throwsIndex("neither is there", () -> Check.number(x.has(1, 1, true)));
    }

    private static void hasRefusedTellsNothing() {
        CHECK.about("17: what is refused is not told");
        HarnessRows x = rows(1);
        CHECK.throwsIndex("has(0, 0, false) without variants", () -> Check.number(x.has(0, 0, false)));
        x.variant();
        CHECK.throwsIndex("has(0, 1, false) without wire 1", () -> Check.number(x.has(0, 1, false)));
        x.wire(0, 1, 0, 2);
        CHECK.same("none is off", -1, x.told(0, 0));
        CHECK.no("wire 0 is on", x.has(0, 0, true));
        CHECK.no("wire 1 is on", x.has(0, 1, true));
    }

    private static void toldWithoutVariants() {
        CHECK.about("18: NONE, when there is no variant");
        HarnessRows x = rows(2);
        CHECK.same("told(0, 0)", -1, x.told(0, 0));
        CHECK.same("told(0, 1)", -1, x.told(0, 1));
        CHECK.same("told(0, 0) of a new object", -1, new HarnessRows().told(0, 0));
    }

    private static void toldWhenAllAreOn() {
        CHECK.about("18: NONE, when there are not so many: none is off");
        HarnessRows x = rows(2);
        x.variant();
        CHECK.same("told(0, 0)", -1, x.told(0, 0));
        x.has(0, 1, false);
        x.has(0, 1, true);
        CHECK.same("off and on", -1, x.told(0, 1));
    }

    private static void toldIsRising() {
        CHECK.about("18: Of the k-th WIRE, rising, that is not on");
        HarnessRows x = rows(16);
        x.variant();
        x.has(0, 13, false);
        x.has(0, 0, false);
        x.has(0, 5, false);
        CHECK.same("told(0, 0)", 0, x.told(0, 0));
        CHECK.same("told(1, 0)", 5, x.told(1, 0));
        CHECK.same("told(2, 0)", 13, x.told(2, 0));
        CHECK.same("told(3, 0)", -1, x.told(3, 0));
    }

    private static void toldOfBothEnds() {
        CHECK.about("18: 16 * NODE + CAVITY of its first end (side 0), or its other one (1)");
        HarnessRows x = new HarnessRows();
        for (int i = 0; i < 16; i++) {
            x.connector(16);
        }
        x.wire(15, 15, 0, 0);
        x.wire(0, 15, 1, 0);
        x.variant();
        x.has(0, 0, false);
        x.has(0, 1, false);
        CHECK.same("the highest end", 255, x.told(0, 0));
        CHECK.same("the lowest end", 0, x.told(0, 1));
        CHECK.same("cavity 15 of node 0", 15, x.told(1, 0));
        CHECK.same("cavity 0 of node 1", 16, x.told(1, 1));
    }

    private static void toldIsNoneBehindTheLast() {
        CHECK.about("18: NONE, when there are not so many");
        HarnessRows x = rows(3);
        x.variant();
        x.has(0, 0, false);
        x.has(0, 2, false);
        CHECK.same("the last one", 2, x.told(1, 0));
        for (int k : new int[] {2, 3, 24, Integer.MAX_VALUE}) {
            CHECK.same("told(" + k + ", 0)", -1, x.told(k, 0));
            CHECK.same("told(" + k + ", 1)", -1, x.told(k, 1));
        }
    }

    private static void toldIsNoneBelowZero() {
        CHECK.about("18: NONE, when k is below 0");
        HarnessRows x = rows(1);
        x.variant();
        x.has(0, 0, false);
        CHECK.same("told(0, 1)", 47, x.told(0, 1));
        CHECK.same("told(-1, 0)", -1, x.told(-1, 0));
        CHECK.same("told(-1, 1)", -1, x.told(-1, 1));
        CHECK.same("told(MIN, 0)", -1, x.told(Integer.MIN_VALUE, 0));
    }

    private static void toldOfAllTwentyFour() {
        CHECK.about("18: Of the k-th WIRE: full, all 24 are off");
        HarnessRows x = fullRows();
        x.variant();
        for (int i = 23; i >= 0; i--) {
            x.has(0, i, false);
        }
        for (int k = 0; k < 24; k++) {
            int from = 16 * (k / 12 * 2) + k % 12;
            CHECK.same("told(" + k + ", 0)", from, x.told(k, 0));
            CHECK.same("told(" + k + ", 1)", from + 16, x.told(k, 1));
        }
        CHECK.same("told(24, 0)", -1, x.told(24, 0));
    }

    /** 24 wires: i goes from cavity i % 12 of connector 0 or 2 to the same of the next one. */
    private static HarnessRows fullRows() {
        HarnessRows x = new HarnessRows();
        for (int i = 0; i < 4; i++) {
            x.connector(12);
        }
        for (int i = 0; i < 24; i++) {
            x.wire(i / 12 * 2, i % 12, i / 12 * 2 + 1, i % 12);
        }
        return x;
    }

    private static void toldIsOfTheLatestVariant() {
        CHECK.about("18: that is not on in the latest variant");
        HarnessRows x = rows(3);
        x.variant();
        x.has(0, 1, false);
        x.variant();
        CHECK.same("as in the one ahead", 1, x.told(0, 0));
        x.has(1, 1, true);
        x.has(1, 2, false);
        CHECK.same("of the latest", 2, x.told(0, 0));
        CHECK.same("of the latest only", -1, x.told(1, 0));
        x.has(0, 0, false);
        CHECK.same("by what is told of the one ahead", 0, x.told(0, 0));
        CHECK.same("and of itself", 2, x.told(1, 0));
    }

    private static void toldOfTheSixthVariant() {
        CHECK.about("18: that is not on in the latest variant: in each of six");
        HarnessRows x = rows(7);
        for (int i = 0; i < 6; i++) {
            x.variant();
            x.has(i, i, false);
            CHECK.same("the last of variant " + i, i, x.told(i, 0));
            CHECK.same("behind it", -1, x.told(i + 1, 0));
        }
        x.variant();
        CHECK.same("a seventh is none: the sixth's last", 5, x.told(5, 0));
    }

    private static void toldRefusesOtherSides() {
        CHECK.about("18: IndexOutOfBoundsException, for another side");
        HarnessRows x = rows(1);
        CHECK.throwsIndex("told(0, 2) without variants", () -> x.told(0, 2));
        CHECK.throwsIndex("told(0, -1) without variants", () -> x.told(0, -1));
        x.variant();
        x.has(0, 0, false);
        for (int wrong : new int[] {-1, 2, Integer.MIN_VALUE, Integer.MAX_VALUE}) {
            CHECK.throwsIndex("told(0, " + wrong + ")", () -> x.told(0, wrong));
            CHECK.throwsIndex("told(9, " + wrong + ")", () -> x.told(9, wrong));
            CHECK.throwsIndex("told(-1, " + wrong + ")", () -> x.told(-1, wrong));
        }
    }
}
