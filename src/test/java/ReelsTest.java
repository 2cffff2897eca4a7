/** Promises 11 and 12: reels. */
public final class ReelsTest {
    private static final Check CHECK = new Check();

    public static void main(String[] args) {
        nothingToPack();
        onlyWiresWithAWay();
        wiresOfNoLength();
        theLengthWithSlack();
        oneIsLonger();
        oneIsLongerOfNine();
        nothingIsPackedWhenOneIsLonger();
        aWireAsLongAsTheReel();
        wiresAsLongAsTheReelTogether();
        asFewAsCanBe();
        ofSeveralWaysTheLowest();
        eightWires();
        nineWires();
        eightOfNineHaveAWay();
        theLongestFirst();
        ofOneLengthTheLowerNumber();
        theLowestReelWithRoom();
        twentyFourWires();
        twentyFourReels();
        reelRefusesOtherLengths();
        reelOfTheLongestLength();
        reelOfAheadOfAnyReel();
        reelOfAWireWithoutAWay();
        reelOfANewWire();
        reelOfStaysUntilTheNextReel();
        reelOfIsByTheLatestReel();
        reelRefusedPacksNothingAnew();
        reelOfRefusesOtherWires();
        CHECK.end();
    }

    /** One connector in the middle; wire i goes from it to another one by a bundle of lengths[i]. */
    private static HarnessRows star(long... lengths) {
        HarnessRows x = new HarnessRows();
        x.connector(16);
        for (int i = 0; i < lengths.length; i++) {
            x.connector(1);
            x.bundle(0, i + 1, lengths[i]);
            x.wire(0, i, i + 1, 0);
        }
        return x;
    }

    private static void packs(HarnessRows x, long length, int want, int... reels) {
        CHECK.same("reel(" + length + ")", want, x.reel(length));
        for (int i = 0; i < reels.length; i++) {
            CHECK.same("reelOf(" + i + ") of reel(" + length + ")", reels[i], x.reelOf(i));
        }
    }

    private static void nothingToPack() {
        CHECK.about("11: how many: 0, when there is no WIRE");
        packs(new HarnessRows(), 1, 0);
        packs(new HarnessRows(), 10_000_000, 0);
        HarnessRows x = new HarnessRows();
        x.connector(2);
        x.connector(2);
        x.wire(0, 0, 1, 0);
        packs(x, 5, 0, -1);
    }

    private static void onlyWiresWithAWay() {
        CHECK.about("11: Packs all WIRES that have a WAY");
        HarnessRows x = star(4, 4);
        int far = x.connector(2);
        x.wire(0, 14, far, 0);
        x.wire(0, 12, 0, 13);
        packs(x, 5, 2, 0, 1, -1, 0);
        x.bundle(far, 0, 1);
        packs(x, 5, 2, 0, 1, 0, 0);
    }

    private static void wiresOfNoLength() {
        CHECK.about("11: Packs all WIRES that have a WAY: also of length 0");
        HarnessRows x = new HarnessRows();
        x.connector(16);
        x.connector(16);
        x.wire(0, 0, 0, 1);
        packs(x, 1, 1, 0);
        x.wire(1, 0, 1, 1);
        packs(x, 1, 1, 0, 0);
        for (int i = 2; i < 9; i++) {
            x.wire(0, 2 * i - 2, 0, 2 * i - 1);
        }
        packs(x, 1, 1, 0, 0, 0, 0, 0, 0, 0, 0, 0);
        x.wire(1, 2, 1, 3);
        packs(x, 1, 1, 0, 0, 0, 0, 0, 0, 0, 0, 0, 0);
    }

    private static void theLengthWithSlack() {
        CHECK.about("11: a WIRE's length is that with SLACK");
        HarnessRows x = star(5, 5);
        packs(x, 10, 1, 0, 0);
        x.slack(1, 1000);
        packs(x, 12, 1, 0, 0);
        packs(x, 11, 2, 0, 1);
        packs(x, 6, 2, 0, 1);
        packs(x, 5, -1, -1, -1);
    }

    private static void oneIsLonger() {
        CHECK.about("11: NONE, when one is longer");
        packs(star(7, 3, 2), 6, -1, -1, -1, -1);
        packs(star(3, 7, 2), 6, -1, -1, -1, -1);
        packs(star(3, 2, 7), 6, -1, -1, -1, -1);
        packs(star(7), 6, -1, -1);
        packs(star(7, 7), 6, -1, -1, -1);
        packs(star(100_000), 99_999, -1, -1);
    }

    private static void oneIsLongerOfNine() {
        CHECK.about("11: NONE, when one is longer: of more than eight");
        HarnessRows x = star(1, 1, 1, 1, 1, 1, 1, 1, 9);
        packs(x, 8, -1, -1, -1, -1, -1, -1, -1, -1, -1, -1);
        packs(x, 9, 2, 1, 1, 1, 1, 1, 1, 1, 1, 0);
        packs(star(9, 1, 1, 1, 1, 1, 1, 1, 1), 8, -1, -1, -1, -1, -1, -1, -1, -1, -1, -1);
    }

    private static void nothingIsPackedWhenOneIsLonger() {
        CHECK.about("11: then nothing is packed: nor what was packed ahead of it");
        HarnessRows x = star(3, 7, 2);
        packs(x, 7, 2, 0, 1, 0);
        packs(x, 6, -1, -1, -1, -1);
        packs(x, 12, 1, 0, 0, 0);
    }

    private static void aWireAsLongAsTheReel() {
        CHECK.about("11: NONE, when one is longer: not, when it is as long");
        packs(star(6, 6), 6, 2, 0, 1);
        packs(star(1), 1, 1, 0);
        packs(star(6, 6, 6, 6, 6, 6, 6, 6, 6), 6, 9, 0, 1, 2, 3, 4, 5, 6, 7, 8);
    }

    private static void wiresAsLongAsTheReelTogether() {
        CHECK.about("11: on REELS of a length: just as long, and one longer");
        packs(star(4, 6), 10, 1, 0, 0);
        packs(star(4, 6), 9, 2, 0, 1);
        packs(star(1, 1, 1, 1, 1, 1, 1, 1, 1), 9, 1, 0, 0, 0, 0, 0, 0, 0, 0, 0);
        packs(star(1, 1, 1, 1, 1, 1, 1, 1, 1), 8, 2, 0, 0, 0, 0, 0, 0, 0, 0, 1);
    }

    private static void asFewAsCanBe() {
        CHECK.about("11: With eight WIRES or fewer: as few as can be");
        // The longest first, as well as one by one, would need three reels here.
        packs(star(4, 4, 3, 3, 3, 3), 10, 2, 0, 1, 0, 0, 1, 1);
        packs(star(3, 3, 2, 2, 2), 6, 2, 0, 0, 1, 1, 1);
        packs(star(6, 6, 6), 10, 3, 0, 1, 2);
        packs(star(5, 5, 5, 5), 10, 2, 0, 0, 1, 1);
    }

    private static void ofSeveralWaysTheLowest() {
        CHECK.about("11: of several ways that in which the lowest WIRE is on the lowest REEL, then the second one, and so on");
        packs(star(2, 2, 2, 2), 100, 1, 0, 0, 0, 0);
        packs(star(2, 5, 3, 5), 8, 2, 0, 0, 1, 1);
        packs(star(2, 6, 3, 5), 8, 2, 0, 0, 1, 1);
        packs(star(2, 5, 6, 3), 8, 2, 0, 1, 0, 1);
        packs(star(7, 1, 1, 7), 8, 2, 0, 0, 1, 1);
        packs(star(1, 7, 7, 1), 8, 2, 0, 0, 1, 1);
        packs(star(1, 2, 3, 4), 7, 2, 0, 0, 0, 1);
        packs(star(4, 3, 2, 1), 5, 2, 0, 1, 1, 0);
    }

    private static void eightWires() {
        CHECK.about("11: With eight WIRES or fewer: with eight");
        packs(star(4, 4, 3, 3, 3, 3, 10, 10), 10, 4, 0, 1, 0, 0, 1, 1, 2, 3);
        packs(star(9, 9, 9, 9, 9, 9, 9, 9), 10, 8, 0, 1, 2, 3, 4, 5, 6, 7);
        packs(star(1, 2, 3, 4, 5, 6, 7, 8), 9, 4, 0, 1, 2, 3, 3, 2, 1, 0);
    }

    private static void nineWires() {
        CHECK.about("11: With more: with nine, not as few as can be");
        packs(star(4, 4, 3, 3, 3, 3, 10, 10, 10), 10, 6, 3, 3, 4, 4, 4, 5, 0, 1, 2);
    }

    private static void eightOfNineHaveAWay() {
        CHECK.about("11: With eight WIRES or fewer: of those that have a WAY");
        HarnessRows x = star(4, 4, 3, 3, 3, 3, 10, 10);
        int far = x.connector(2);
        x.wire(0, 8, far, 0);
        packs(x, 10, 4, 0, 1, 0, 0, 1, 1, 2, 3, -1);
        x.bundle(far, 0, 10);
        packs(x, 10, 6, 3, 3, 4, 4, 4, 5, 0, 1, 2);
    }

    private static void theLongestFirst() {
        CHECK.about("11: With more: the longest first");
        packs(star(1, 2, 3, 4, 5, 6, 7, 8, 9), 10, 5, 0, 1, 2, 3, 4, 3, 2, 1, 0);
        packs(star(9, 8, 7, 6, 5, 4, 3, 2, 1), 10, 5, 0, 1, 2, 3, 4, 3, 2, 1, 0);
    }

    private static void ofOneLengthTheLowerNumber() {
        CHECK.about("11: of one length the lower number");
        packs(star(5, 5, 5, 5, 5, 5, 5, 5, 5), 10, 5, 0, 0, 1, 1, 2, 2, 3, 3, 4);
        packs(star(3, 8, 3, 8, 3, 8, 3, 8, 3), 8, 7, 4, 0, 4, 1, 5, 2, 5, 3, 6);
    }

    private static void theLowestReelWithRoom() {
        CHECK.about("11: each on the lowest REEL on which it has room");
        packs(star(2, 7, 2, 7, 1, 1, 1, 1, 1), 10, 3, 0, 0, 1, 1, 0, 1, 2, 2, 2);
        packs(star(9, 6, 5, 4, 3, 2, 1, 1, 1), 10, 4, 0, 1, 2, 1, 2, 2, 0, 3, 3);
    }

    private static void twentyFourWires() {
        CHECK.about("11: With more: full, 24 WIRES");
        HarnessRows x = new HarnessRows();
        x.connector(16);
        x.connector(16);
        x.connector(16);
        x.bundle(0, 1, 100_000);
        x.bundle(1, 2, 100_000);
        for (int i = 0; i < 8; i++) {
            x.wire(0, i, 1, i);
            x.wire(1, i + 8, 2, i);
            x.wire(2, i + 8, 0, i + 8);
        }
        CHECK.same("8 alone and 16 by two", 16, x.reel(200_000));
        for (int i = 0; i < 8; i++) {
            CHECK.same("the longest are alone", i, x.reelOf(3 * i + 2));
            CHECK.same("the others by two", 8 + i, x.reelOf(3 * i));
            CHECK.same("the others by two", 8 + i, x.reelOf(3 * i + 1));
        }
        CHECK.same("all on one", 1, x.reel(3_200_000));
        CHECK.same("one too short for all", 2, x.reel(3_199_999));
    }

    private static void twentyFourReels() {
        CHECK.about("11: REELS are numbered from 0: 24 of them");
        HarnessRows x = new HarnessRows();
        for (int i = 0; i < 4; i++) {
            x.connector(16);
        }
        x.bundle(0, 1, 6);
        x.bundle(2, 3, 6);
        for (int i = 0; i < 24; i++) {
            int a = i < 16 ? 0 : 2;
            x.wire(a, i % 16, a + 1, i % 16);
        }
        CHECK.same("24 reels", 24, x.reel(11));
        for (int i = 0; i < 24; i++) {
            CHECK.same("reelOf(" + i + ") of 24", i, x.reelOf(i));
        }
    }

    private static void reelRefusesOtherLengths() {
        CHECK.about("11: IllegalArgumentException, when length is not 1 .. 10,000,000");
        HarnessRows x = star(1);
        for (long wrong : new long[] {0, 10_000_001, -1, (1L << 32) + 1, Long.MIN_VALUE, Long.MAX_VALUE}) {
            CHECK.throwsArgument("reel(" + wrong + ")", () -> x.reel(wrong));
        }
        CHECK.same("reel(1)", 1, x.reel(1));
        CHECK.same("reel(10000000)", 1, x.reel(10_000_000));
        CHECK.throwsArgument("reel(0) of a new object", () -> new HarnessRows().reel(0));
    }

    private static void reelOfTheLongestLength() {
        CHECK.about("11: a length of 10,000,000, and 24 WIRES of 3,000,000");
        HarnessRows x = new HarnessRows();
        for (int i = 0; i < 16; i++) {
            x.connector(i == 0 || i == 15 ? 16 : 8);
            if (i > 0) {
                x.bundle(i - 1, i, 100_000);
            }
        }
        for (int i = 0; i < 16; i++) {
            x.wire(0, i, 15, i);
        }
        for (int i = 0; i < 8; i++) {
            x.wire(1, i, 14, i);
        }
        x.slack(1, 1);
        CHECK.same("16 of 3000000, then 8 of 2600000", 8, x.reel(10_000_000));
        CHECK.same("three on one", 0, x.reelOf(2));
        CHECK.same("the fourth", 1, x.reelOf(3));
        CHECK.same("the 16th", 5, x.reelOf(15));
        CHECK.same("beside the 16th", 5, x.reelOf(16));
        CHECK.same("the last one", 7, x.reelOf(23));
    }

    private static void reelOfAheadOfAnyReel() {
        CHECK.about("12: NONE, when it was not packed: no reel() yet");
        CHECK.same("reelOf(0)", -1, star(5).reelOf(0));
    }

    private static void reelOfAWireWithoutAWay() {
        CHECK.about("12: NONE, when it was not packed: no WAY");
        HarnessRows x = new HarnessRows();
        x.connector(1);
        x.connector(1);
        x.wire(0, 0, 1, 0);
        packs(x, 100, 0, -1);
        x.bundle(0, 1, 5);
        CHECK.same("a WAY behind reel()", -1, x.reelOf(0));
        packs(x, 100, 1, 0);
    }

    private static void reelOfANewWire() {
        CHECK.about("12: NONE, when it was not packed: told behind reel()");
        HarnessRows x = star(5);
        packs(x, 100, 1, 0);
        x.wire(0, 14, 0, 15);
        CHECK.same("reelOf(1)", -1, x.reelOf(1));
        packs(x, 100, 1, 0, 0);
    }

    private static void reelOfStaysUntilTheNextReel() {
        CHECK.about("12: by the latest reel(): whatever is told behind it");
        HarnessRows x = star(3, 7);
        packs(x, 7, 2, 0, 1);
        x.slack(1, 1);
        x.splice(0, 1);
        x.variant();
        x.has(0, 1, false);
        CHECK.same("reelOf(0)", 0, x.reelOf(0));
        CHECK.same("reelOf(1)", 1, x.reelOf(1));
    }

    private static void reelOfIsByTheLatestReel() {
        CHECK.about("12: by the latest reel(): of several");
        HarnessRows x = star(5, 5, 5, 5, 5, 5, 5, 5, 5);
        packs(x, 45, 1, 0, 0, 0, 0, 0, 0, 0, 0, 0);
        packs(x, 5, 9, 0, 1, 2, 3, 4, 5, 6, 7, 8);
        packs(x, 45, 1, 0, 0, 0, 0, 0, 0, 0, 0, 0);
        HarnessRows y = star(3, 7);
        packs(y, 7, 2, 0, 1);
        packs(y, 10, 1, 0, 0);
        packs(y, 7, 2, 0, 1);
    }

    private static void reelRefusedPacksNothingAnew() {
        CHECK.about("12: by the latest reel(): one that throws is none");
        HarnessRows x = star(3, 7);
        packs(x, 7, 2, 0, 1);
        CHECK.throwsArgument("reel(0)", () -> x.reel(0));
        CHECK.throwsArgument("reel(10000001)", () -> x.reel(10_000_001));
        CHECK.same("reelOf(0)", 0, x.reelOf(0));
        CHECK.same("reelOf(1)", 1, x.reelOf(1));
    }

    private static void reelOfRefusesOtherWires() {
        CHECK.about("12: IndexOutOfBoundsException, when there is no such WIRE");
        HarnessRows x = star(1, 1);
        for (int wrong : new int[] {-1, 2, 23, 24, 32, Integer.MIN_VALUE, Integer.MAX_VALUE}) {
            CHECK.throwsIndex("reelOf(" + wrong + ")", () -> x.reelOf(wrong));
        }
        packs(x, 2, 1, 0, 0);
        CHECK.throwsIndex("reelOf(2) behind reel()", () -> x.reelOf(2));
    }
}
