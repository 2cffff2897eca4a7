import java.util.Arrays;

/** Harnesses: connectors and nodes in trees of bundles, and the wires in them. */
public final class HarnessRows {
    public static final int NONE = -1;

    private static final int NODE_LIMIT = 16;
    private static final int CAVITY_LIMIT = 16;
    // Bundles never make a ring, so 16 nodes have 15 of them at most.
    private static final int BUNDLE_LIMIT = 15;
    private static final int WIRE_LIMIT = 24;
    private static final int ROW_LIMIT = 10;
    private static final int SPLICE_LIMIT = 20;
    private static final int VARIANT_LIMIT = 6;
    private static final int FEWEST_REELS_LIMIT = 8;
    private static final long BUNDLE_LENGTH_LIMIT = 100_000L;
    private static final long REEL_LENGTH_LIMIT = 10_000_000L;
    private static final long NUMBER_LIMIT = 1_000_000L;
    private static final long SLACK_LIMIT = 1_000L;
    private static final long DROP_SCALE = 1_000_000_000L;

    private final Trees trees = new Trees();
    private final Wires wires = new Wires();
    private final Table rows = new Table();
    private final Reels reels = new Reels();
    private final Splices splices = new Splices();
    private final Variants variants = new Variants();
    // Kept, so that a call of command makes no object.
    private final StringBuilder line = new StringBuilder();
    private long slackAbove = 0L;
    // A divisor: slack() lets nothing below 1 in.
    private long slackBelow = 1L;

    public HarnessRows() {
    }

    public int connector(int cavities) throws IllegalArgumentException {
        checkNumber(cavities, 1, CAVITY_LIMIT);
        return trees.addNode(cavities);
    }

    public int node() {
        return trees.addNode(0);
    }

    public int bundle(int a, int b, long length) throws IndexOutOfBoundsException, IllegalArgumentException {
        checkIndex(a, trees.nodeCount());
        checkIndex(b, trees.nodeCount());
        checkNumber(length, 1, BUNDLE_LENGTH_LIMIT);
        return trees.addBundle(a, b, length);
    }

    public int wire(int connectorA, int cavityA, int connectorB, int cavityB) throws IndexOutOfBoundsException {
        checkCavity(connectorA, cavityA);
        checkCavity(connectorB, cavityB);
        return wires.add(endOf(connectorA, cavityA), endOf(connectorB, cavityB));
    }

    public boolean load(int wire, long milliampere, long dropMillivolt)
            throws IndexOutOfBoundsException, IllegalArgumentException {
        checkIndex(wire, wires.count());
        checkNumber(milliampere, 0, NUMBER_LIMIT);
        checkNumber(dropMillivolt, 0, NUMBER_LIMIT);
        return wires.tellLoad(wire, milliampere, dropMillivolt);
    }

    public int gauge(int wire) throws IndexOutOfBoundsException {
        checkIndex(wire, wires.count());
        long cut = cutLength(wire);
        if (cut == NONE) {
            return NONE;
        }
        return rows.leastThatWillDo(wires.loadOf(wire), wires.dropOf(wire), cut);
    }

    public boolean table(int row, long area, long milliampere, long microohmAMetre)
            throws IndexOutOfBoundsException, IllegalArgumentException {
        checkIndex(row, ROW_LIMIT);
        checkNumber(area, 1, NUMBER_LIMIT);
        checkNumber(milliampere, 1, NUMBER_LIMIT);
        checkNumber(microohmAMetre, 1, NUMBER_LIMIT);
        return rows.tellRow(row, area, milliampere, microohmAMetre);
    }

    public long length(int wire) throws IndexOutOfBoundsException {
        checkIndex(wire, wires.count());
        return cutLength(wire);
    }

    public boolean slack(long above, long below) throws IllegalArgumentException {
        checkNumber(below, 1, SLACK_LIMIT);
        checkNumber(above, 0, below);
        boolean other = above != slackAbove || below != slackBelow;
        slackAbove = above;
        slackBelow = below;
        return other;
    }

    public int reel(long length) throws IllegalArgumentException {
        checkNumber(length, 1, REEL_LENGTH_LIMIT);
        reels.begin();
        for (int wire = 0; wire < wires.count(); wire++) {
            long cut = cutLength(wire);
            if (cut != NONE) {
                reels.addPiece(wire, cut);
            }
        }
        return reels.pack(length);
    }

    public int reelOf(int wire) throws IndexOutOfBoundsException {
        checkIndex(wire, wires.count());
        return reels.numberOf(wire);
    }

    public int splice(int a, int b) throws IndexOutOfBoundsException {
        checkIndex(a, wires.count());
        checkIndex(b, wires.count());
        return splices.add(a, b);
    }

    public boolean joined(int connectorA, int cavityA, int connectorB, int cavityB)
            throws IndexOutOfBoundsException {
        checkCavity(connectorA, cavityA);
        checkCavity(connectorB, cavityB);
        int endA = endOf(connectorA, cavityA);
        int endB = endOf(connectorB, cavityB);
        if (endA == endB) {
            return true;
        }
        int wireA = wires.wireAt(endA);
        int wireB = wires.wireAt(endB);
        return wireA != NONE && wireB != NONE && splices.inOneGroup(wireA, wireB);
    }

    public int colour(int wire) throws IndexOutOfBoundsException {
        checkIndex(wire, wires.count());
        return wires.colourOf(wire);
    }

    public int variant() {
        return variants.add();
    }

    public boolean has(int variant, int wire, boolean on) throws IndexOutOfBoundsException {
        checkIndex(variant, variants.count());
        checkIndex(wire, wires.count());
        return variants.tellWire(variant, wire, on);
    }

    public int told(int k, int side) throws IndexOutOfBoundsException {
        checkIndex(side, 2);
        int wire = variants.wireOff(k, wires.count());
        if (wire == NONE) {
            return NONE;
        }
        return side == 0 ? wires.firstEnd(wire) : wires.otherEnd(wire);
    }

    public int command(int k, int i) throws IndexOutOfBoundsException {
        checkIndex(k, trees.bundleCount());
        checkNotBelowZero(i);
        writeBundle(k);
        return i < line.length() ? line.charAt(i) : NONE;
    }

    private static void checkIndex(int index, int count) {
        if (index < 0 || index >= count) {
            throw new IndexOutOfBoundsException("there is no such number");
        }
    }

    private static void checkNotBelowZero(int index) {
        if (index < 0) {
            throw new IndexOutOfBoundsException("an index is below 0");
        }
    }

    private static void checkNumber(long number, long least, long most) {
        if (number < least || number > most) {
            throw new IllegalArgumentException("a number is out of its range");
        }
    }

    private void checkCavity(int connector, int cavity) {
        checkIndex(connector, trees.nodeCount());
        checkIndex(cavity, trees.cavitiesOf(connector));
    }

    private static int endOf(int connector, int cavity) {
        return connector * CAVITY_LIMIT + cavity;
    }

    private static int nodeOf(int end) {
        return end / CAVITY_LIMIT;
    }

    private static boolean hasBit(int bits, int number) {
        return (bits >> number & 1) != 0;
    }

    private long cutLength(int wire) {
        long way = trees.wayBetween(nodeOf(wires.firstEnd(wire)), nodeOf(wires.otherEnd(wire)));
        if (way == NONE) {
            return NONE;
        }
        return way + (way * slackAbove + slackBelow - 1) / slackBelow;
    }

    private void writeBundle(int number) {
        line.setLength(0);
        writeNode(trees.firstNode(number));
        line.append('-');
        writeNode(trees.otherNode(number));
        line.append(' ');
        line.append(trees.bundleLength(number));
    }

    private void writeNode(int number) {
        line.append(trees.cavitiesOf(number) > 0 ? 'C' : 'N');
        line.append(number);
    }

    /** The nodes and the bundles between them. */
    private static final class Trees {
        // A plain node has 0 cavities.
        private final int[] cavities = new int[NODE_LIMIT];
        private final int[] firstNodes = new int[BUNDLE_LIMIT];
        private final int[] otherNodes = new int[BUNDLE_LIMIT];
        private final int[] lengths = new int[BUNDLE_LIMIT];
        // The way between every two nodes, kept so that no call has to look for one.
        private final long[] ways = new long[NODE_LIMIT * NODE_LIMIT];
        private int nodes = 0;
        private int bundles = 0;

        int nodeCount() {
            return nodes;
        }

        int bundleCount() {
            return bundles;
        }

        int cavitiesOf(int number) {
            return cavities[number];
        }

        int firstNode(int number) {
            return firstNodes[number];
        }

        int otherNode(int number) {
            return otherNodes[number];
        }

        int bundleLength(int number) {
            return lengths[number];
        }

        long wayBetween(int a, int b) {
            return ways[a * NODE_LIMIT + b];
        }

        int addNode(int cavityCount) {
            if (nodes >= NODE_LIMIT) {
                return NONE;
            }
            cavities[nodes] = cavityCount;
            for (int other = 0; other < nodes; other++) {
                setWay(nodes, other, NONE);
            }
            setWay(nodes, nodes, 0L);
            nodes++;
            return nodes - 1;
        }

        int addBundle(int a, int b, long length) {
            if (wayBetween(a, b) != NONE || bundles >= BUNDLE_LIMIT) {
                return NONE;
            }
            firstNodes[bundles] = a;
            otherNodes[bundles] = b;
            lengths[bundles] = (int) length;
            joinTrees(a, b, length);
            bundles++;
            return bundles - 1;
        }

        private void joinTrees(int a, int b, long length) {
            // Both trees are noted first: each way that is set makes them one.
            int treeA = treeOf(a);
            int treeB = treeOf(b);
            for (int i = 0; i < nodes; i++) {
                for (int j = 0; j < nodes; j++) {
                    if (hasBit(treeA, i) && hasBit(treeB, j)) {
                        setWay(i, j, wayBetween(i, a) + length + wayBetween(b, j));
                    }
                }
            }
        }

        private int treeOf(int number) {
            int bits = 0;
            for (int other = 0; other < nodes; other++) {
                if (wayBetween(number, other) != NONE) {
                    bits |= 1 << other;
                }
            }
            return bits;
        }

        private void setWay(int a, int b, long way) {
            ways[a * NODE_LIMIT + b] = way;
            ways[b * NODE_LIMIT + a] = way;
        }
    }

    /** The wires; an end is 16 * its node + its cavity. */
    private static final class Wires {
        private final int[] firstEnds = new int[WIRE_LIMIT];
        private final int[] otherEnds = new int[WIRE_LIMIT];
        private final int[] colours = new int[WIRE_LIMIT];
        private final long[] loads = new long[WIRE_LIMIT];
        private final long[] drops = new long[WIRE_LIMIT];
        private int wireCount = 0;

        int count() {
            return wireCount;
        }

        int firstEnd(int number) {
            return firstEnds[number];
        }

        int otherEnd(int number) {
            return otherEnds[number];
        }

        int colourOf(int number) {
            return colours[number];
        }

        long loadOf(int number) {
            return loads[number];
        }

        long dropOf(int number) {
            return drops[number];
        }

        int wireAt(int end) {
            for (int i = 0; i < wireCount; i++) {
                if (firstEnds[i] == end || otherEnds[i] == end) {
                    return i;
                }
            }
            return NONE;
        }

        int add(int endA, int endB) {
            if (wireCount >= WIRE_LIMIT || endA == endB || wireAt(endA) != NONE || wireAt(endB) != NONE) {
                return NONE;
            }
            // Only lower wires bear on a colour, so it stays as it is now.
            colours[wireCount] = freeColour(nodeOf(endA), nodeOf(endB));
            firstEnds[wireCount] = endA;
            otherEnds[wireCount] = endB;
            loads[wireCount] = 0L;
            drops[wireCount] = NUMBER_LIMIT;
            wireCount++;
            return wireCount - 1;
        }

        boolean tellLoad(int number, long milliampere, long dropMillivolt) {
            boolean other = loads[number] != milliampere || drops[number] != dropMillivolt;
            loads[number] = milliampere;
            drops[number] = dropMillivolt;
            return other;
        }

        private int freeColour(int connectorA, int connectorB) {
            int taken = 0;
            for (int i = 0; i < wireCount; i++) {
                if (endsAt(i, connectorA) || endsAt(i, connectorB)) {
                    taken |= 1 << colours[i];
                }
            }
            int free = 0;
            while (free < WIRE_LIMIT && hasBit(taken, free)) {
                free++;
            }
            return free;
        }

        private boolean endsAt(int number, int connector) {
            return nodeOf(firstEnds[number]) == connector || nodeOf(otherEnds[number]) == connector;
        }
    }

    /** The table's rows; one that was not told has the area 0. */
    private static final class Table {
        private final long[] areas = new long[ROW_LIMIT];
        private final long[] milliamperes = new long[ROW_LIMIT];
        private final long[] microohms = new long[ROW_LIMIT];

        boolean tellRow(int row, long area, long milliampere, long microohm) {
            boolean other = areas[row] != area || milliamperes[row] != milliampere || microohms[row] != microohm;
            areas[row] = area;
            milliamperes[row] = milliampere;
            microohms[row] = microohm;
            return other;
        }

        int leastThatWillDo(long milliampere, long dropMillivolt, long cut) {
            int best = NONE;
            long bestArea = NUMBER_LIMIT + 1;
            for (int row = 0; row < ROW_LIMIT; row++) {
                if (areas[row] < bestArea && willDo(row, milliampere, dropMillivolt, cut)) {
                    best = row;
                    bestArea = areas[row];
                }
            }
            return best;
        }

        private boolean willDo(int row, long milliampere, long dropMillivolt, long cut) {
            // A wire is 3,000,000 long at most, so the product stays below 2^63.
            return areas[row] > 0
                    && milliamperes[row] >= milliampere
                    && milliampere * microohms[row] * cut <= dropMillivolt * DROP_SCALE;
        }
    }

    /** Packs pieces, each the cut of one wire, on reels. */
    private static final class Reels {
        private final int[] reelOfWire = new int[WIRE_LIMIT];
        private final int[] wireOfPiece = new int[WIRE_LIMIT];
        private final long[] cuts = new long[WIRE_LIMIT];
        private final long[] filled = new long[WIRE_LIMIT];
        private final int[] trial = new int[WIRE_LIMIT];
        private int pieces = 0;
        private int fewest = 0;
        private long reelLength = 0L;

        Reels() {
            Arrays.fill(reelOfWire, NONE);
        }

        int numberOf(int wireNumber) {
            return reelOfWire[wireNumber];
        }

        void begin() {
            Arrays.fill(reelOfWire, NONE);
            Arrays.fill(filled, 0L);
            pieces = 0;
        }

        void addPiece(int wireNumber, long cut) {
            if (pieces >= WIRE_LIMIT) {
                return;
            }
            wireOfPiece[pieces] = wireNumber;
            cuts[pieces] = cut;
            pieces++;
        }

        int pack(long length) {
            reelLength = length;
            for (int piece = 0; piece < pieces; piece++) {
                if (cuts[piece] > reelLength) {
                    return NONE;
                }
            }
            return pieces <= FEWEST_REELS_LIMIT ? packOnFewest() : packLongestFirst();
        }

        private int packOnFewest() {
            fewest = pieces + 1;
            placeFrom(0, 0);
            return fewest;
        }

        // Goes through the ways in the order that the document ranks them by, so of
        // those with one count the first that is found stays. It is as deep as there
        // are pieces: eight.
        private void placeFrom(int piece, int used) {
            if (used >= fewest) {
                return;
            }
            if (piece >= pieces) {
                keepTrial(used);
                return;
            }
            for (int number = 0; number <= used; number++) {
                placeOn(piece, number, used);
            }
        }

        private void placeOn(int piece, int number, int used) {
            if (!hasRoom(number, piece)) {
                return;
            }
            filled[number] += cuts[piece];
            trial[piece] = number;
            placeFrom(piece + 1, Math.max(used, number + 1));
            filled[number] -= cuts[piece];
        }

        private void keepTrial(int used) {
            fewest = used;
            for (int piece = 0; piece < pieces; piece++) {
                reelOfWire[wireOfPiece[piece]] = trial[piece];
            }
        }

        private int packLongestFirst() {
            int used = 0;
            for (int step = 0; step < pieces; step++) {
                int piece = longestLeft();
                int number = piece == NONE ? NONE : lowestWithRoom(piece);
                if (number == NONE) {
                    return used;
                }
                filled[number] += cuts[piece];
                reelOfWire[wireOfPiece[piece]] = number;
                used = Math.max(used, number + 1);
            }
            return used;
        }

        private int longestLeft() {
            int longest = NONE;
            for (int piece = 0; piece < pieces; piece++) {
                boolean left = reelOfWire[wireOfPiece[piece]] == NONE;
                if (left && (longest == NONE || cuts[piece] > cuts[longest])) {
                    longest = piece;
                }
            }
            return longest;
        }

        private int lowestWithRoom(int piece) {
            for (int number = 0; number < WIRE_LIMIT; number++) {
                if (hasRoom(number, piece)) {
                    return number;
                }
            }
            return NONE;
        }

        private boolean hasRoom(int number, int piece) {
            return filled[number] + cuts[piece] <= reelLength;
        }
    }

    /** Which wires are spliced, and which are joined by splices. */
    private static final class Splices {
        // One bit for each wire that a wire is spliced with.
        private final int[] partners = new int[WIRE_LIMIT];
        // Wires joined by splices, over others too, have one number.
        private final int[] groups = new int[WIRE_LIMIT];
        private int spliceCount = 0;

        Splices() {
            for (int i = 0; i < WIRE_LIMIT; i++) {
                groups[i] = i;
            }
        }

        boolean inOneGroup(int a, int b) {
            return groups[a] == groups[b];
        }

        int add(int a, int b) {
            if (a == b || spliceCount >= SPLICE_LIMIT || hasBit(partners[a], b)) {
                return NONE;
            }
            partners[a] |= 1 << b;
            partners[b] |= 1 << a;
            mergeGroups(groups[a], groups[b]);
            spliceCount++;
            return spliceCount;
        }

        private void mergeGroups(int kept, int gone) {
            for (int i = 0; i < WIRE_LIMIT; i++) {
                if (groups[i] == gone) {
                    groups[i] = kept;
                }
            }
        }
    }

    /** What was told of each variant's wires, one bit a wire. */
    private static final class Variants {
        private final int[] toldWires = new int[VARIANT_LIMIT];
        private final int[] onWires = new int[VARIANT_LIMIT];
        private int variantCount = 0;

        int count() {
            return variantCount;
        }

        int add() {
            if (variantCount >= VARIANT_LIMIT) {
                return NONE;
            }
            variantCount++;
            return variantCount - 1;
        }

        boolean tellWire(int number, int wireNumber, boolean on) {
            boolean before = isOn(number, wireNumber);
            int bit = 1 << wireNumber;
            toldWires[number] |= bit;
            onWires[number] = on ? onWires[number] | bit : onWires[number] & ~bit;
            return before != on;
        }

        int wireOff(int k, int wireCount) {
            if (k < 0 || variantCount == 0) {
                return NONE;
            }
            int ahead = 0;
            for (int i = 0; i < wireCount; i++) {
                if (!isOn(variantCount - 1, i)) {
                    if (ahead == k) {
                        return i;
                    }
                    ahead++;
                }
            }
            return NONE;
        }

        private boolean isOn(int number, int wireNumber) {
            // Looked up anew each time: a variant follows those ahead of it also in
            // what is told of them later.
            for (int i = number; i >= 0; i--) {
                if (hasBit(toldWires[i], wireNumber)) {
                    return hasBit(onWires[i], wireNumber);
                }
            }
            return true;
        }
    }
}
