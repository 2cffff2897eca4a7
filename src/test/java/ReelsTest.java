/** Promises 11 and 12: reels. */
public final class ReelsTest {
    private static final Check CHECK = new Check();

    public static void main(String[] args) {
        nothingToPack();
        fewestReels();
        ofSeveralWaysTheLowest();
        eightAreExactNineAreNot();
        onlyWiresWithAWayCount();
        longestFirstByNumber();
        wiresOfNoLength();
        aWireThatIsTooLong();
        packingStaysUntilTheNext();
        slackIsCut();
        twentyFourWires();
        reelRefusesWrongInputs();
        CHECK.end();
    }

    /** One connector in the middle; wire i goes from it to another one by a bundle of lengths[i]. */
    private static HarnessRows star(long... lengths) {
        HarnessRows x = new HarnessRows();
        x.connector(16);
        for (int i = 0; i < lengths.length; i++) {
            x.connector(1);
            x.bundle(0, i + 1, lengths[i]);
            x.wire(0, i, i + 1, 0);
        }
        return x;
    }

    private static void packs(HarnessRows x, long length, int want, int... reels) {
        CHECK.same("reel(" + length + ")", want, x.reel(length));
        for (int i = 0; i < reels.length; i++) {
            CHECK.same("reelOf(" + i + ") of reel(" + length + ")", reels[i], x.reelOf(i));
        }
    }

    private static void nothingToPack() {
        CHECK.same("reelOf(0) of a new object", -1, star(5).reelOf(0));
        HarnessRows x = new HarnessRows();
        packs(x, 5, 0);
        x.connector(2);
        x.connector(2);
        x.wire(0, 0, 1, 0);
        CHECK.same("reelOf(0) ahead of any reel()", -1, x.reelOf(0));
        packs(x, 5, 0, -1);
    }

    private static void fewestReels() {
        // Longest first, as well as one by one, would need three reels here.
        packs(star(4, 4, 3, 3, 3, 3), 10, 2, 0, 1, 0, 0, 1, 1);
        packs(star(3, 3, 2, 2, 2), 6, 2, 0, 0, 1, 1, 1);
        packs(star(6, 6, 6), 10, 3, 0, 1, 2);
        packs(star(5, 5, 5, 5), 10, 2, 0, 0, 1, 1);
        packs(star(1), 1, 1, 0);
    }

    private static void ofSeveralWaysTheLowest() {
        packs(star(2, 2, 2, 2), 100, 1, 0, 0, 0, 0);
        packs(star(2, 5, 3, 5), 8, 2, 0, 0, 1, 1);
        packs(star(2, 6, 3, 5), 8, 2, 0, 0, 1, 1);
        packs(star(2, 5, 6, 3), 8, 2, 0, 1, 0, 1);
        packs(star(7, 1, 1, 7), 8, 2, 0, 0, 1, 1);
    }

    private static void eightAreExactNineAreNot() {
        packs(star(4, 4, 3, 3, 3, 3, 10, 10), 10, 4, 0, 1, 0, 0, 1, 1, 2, 3);
        packs(star(4, 4, 3, 3, 3, 3, 10, 10, 10), 10, 6, 3, 3, 4, 4, 4, 5, 0, 1, 2);
    }

    private static void onlyWiresWithAWayCount() {
        HarnessRows x = star(4, 4, 3, 3, 3, 3, 10, 10);
        int far = x.connector(2);
        x.wire(0, 8, far, 0);
        packs(x, 10, 4, 0, 1, 0, 0, 1, 1, 2, 3, -1);
        x.bundle(far, 0, 10);
        packs(x, 10, 6, 3, 3, 4, 4, 4, 5, 0, 1, 2);
    }

    private static void longestFirstByNumber() {
        packs(star(1, 2, 3, 4, 5, 6, 7, 8, 9), 10, 5, 0, 1, 2, 3, 4, 3, 2, 1, 0);
        packs(star(5, 5, 5, 5, 5, 5, 5, 5, 5), 10, 5, 0, 0, 1, 1, 2, 2, 3, 3, 4);
        packs(star(2, 7, 2, 7, 1, 1, 1, 1, 1), 10, 3, 0, 0, 1, 1, 0, 1, 2, 2, 2);
    }

    private static void wiresOfNoLength() {
        HarnessRows x = new HarnessRows();
        x.connector(16);
        x.connector(16);
        x.wire(0, 0, 0, 1);
        packs(x, 1, 1, 0);
        x.wire(1, 0, 1, 1);
        packs(x, 1, 1, 0, 0);
        for (int i = 2; i < 9; i++) {
            x.wire(0, 2 * i - 2, 0, 2 * i - 1);
        }
        packs(x, 1, 1, 0, 0, 0, 0, 0, 0, 0, 0);
        x.wire(1, 2, 1, 3);
        packs(x, 1, 1, 0, 0, 0, 0, 0, 0, 0, 0, 0);
    }

    private static void aWireThatIsTooLong() {
        HarnessRows x = star(3, 7, 2);
        packs(x, 7, 2, 0, 1, 0);
        packs(x, 6, -1, -1, -1, -1);
        packs(x, 12, 1, 0, 0, 0);
        HarnessRows y = star(1, 1, 1, 1, 1, 1, 1, 1, 9);
        packs(y, 8, -1, -1, -1, -1, -1, -1, -1, -1, -1, -1);
        packs(y, 9, 2, 1, 1, 1, 1, 1, 1, 1, 1, 0);
    }

    private static void packingStaysUntilTheNext() {
        HarnessRows x = star(3, 7);
        packs(x, 7, 2, 0, 1);
        x.slack(1, 1);
        x.connector(1);
        x.bundle(0, 3, 1);
        x.wire(0, 2, 3, 0);
        CHECK.same("reelOf(0)", 0, x.reelOf(0));
        CHECK.same("reelOf(1)", 1, x.reelOf(1));
        CHECK.same("reelOf(2) of a new wire", -1, x.reelOf(2));
        CHECK.throwsArgument("reel(0)", () -> x.reel(0));
        CHECK.same("reelOf(1) after a refused reel", 1, x.reelOf(1));
        packs(x, 100, 1, 0, 0, 0);
        HarnessRows y = star(5, 5, 5, 5, 5, 5, 5, 5, 5);
        packs(y, 45, 1, 0, 0, 0, 0, 0, 0, 0, 0, 0);
        packs(y, 45, 1, 0, 0, 0, 0, 0, 0, 0, 0, 0);
    }

    private static void slackIsCut() {
        HarnessRows x = star(5, 5);
        packs(x, 10, 1, 0, 0);
        x.slack(1, 1000);
        packs(x, 10, 2, 0, 1);
        packs(x, 5, -1, -1, -1);
    }

    private static void twentyFourWires() {
        HarnessRows x = new HarnessRows();
        x.connector(16);
        x.connector(16);
        x.connector(16);
        x.bundle(0, 1, 100_000);
        x.bundle(1, 2, 100_000);
        for (int i = 0; i < 8; i++) {
            x.wire(0, i, 1, i);
            x.wire(1, i + 8, 2, i);
            x.wire(2, i + 8, 0, i + 8);
        }
        CHECK.same("8 alone and 16 by two", 16, x.reel(200_000));
        CHECK.same("the longest are first", 0, x.reelOf(2));
        CHECK.same("then the first two shorter ones", 8, x.reelOf(0));
        CHECK.same("then the first two shorter ones", 8, x.reelOf(1));
        CHECK.same("then the next two", 9, x.reelOf(3));
        CHECK.same("the last one", 15, x.reelOf(22));
        CHECK.same("all on one", 1, x.reel(10_000_000));
        twentyFourReels();
    }

    private static void twentyFourReels() {
        HarnessRows y = new HarnessRows();
        for (int i = 0; i < 4; i++) {
            y.connector(16);
        }
        y.bundle(0, 1, 6);
        y.bundle(2, 3, 6);
        for (int i = 0; i < 24; i++) {
            int a = i < 16 ? 0 : 2;
            y.wire(a, i % 16, a + 1, i % 16);
        }
        CHECK.same("24 reels", 24, y.reel(11));
        for (int i = 0; i < 24; i++) {
            CHECK.same("reelOf(" + i + ") of 24", i, y.reelOf(i));
        }
    }

    private static void reelRefusesWrongInputs() {
        HarnessRows x = star(1);
        CHECK.throwsArgument("reel(0)", () -> x.reel(0));
        CHECK.throwsArgument("reel(-1)", () -> x.reel(-1));
        CHECK.throwsArgument("reel(10000001)", () -> x.reel(10_000_001));
        CHECK.throwsArgument("reel(MAX)", () -> x.reel(Long.MAX_VALUE));
        CHECK.throwsIndex("reelOf(1)", () -> x.reelOf(1));
        CHECK.throwsIndex("reelOf(-1)", () -> x.reelOf(-1));
        CHECK.same("reel(10000000)", 1, x.reel(10_000_000));
        CHECK.same("reel(1)", 1, x.reel(1));
    }
}
