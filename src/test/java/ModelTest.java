import java.util.ArrayList;
import java.util.List;
import java.util.Random;

/** All promises: runs of 512 calls, each answer compared with that of a slow, plain model. */
public final class ModelTest {
    private static final int RUNS = 600;
    private static final int CALLS = 512;
    private static final int KINDS = 18;
    private static final Check CHECK = new Check();

    public static void main(String[] args) {
        for (int run = 0; run < RUNS; run++) {
            oneRun(run, new Random(run));
        }
        CHECK.end();
    }

    private static void oneRun(int run, Random random) {
        HarnessRows rows = new HarnessRows();
        Model model = new Model();
        // Some runs hold few wires, for the reels that are packed exactly.
        int wireCap = run % 2 == 0 ? 9 : 24;
        for (int call = 0; call < CALLS; call++) {
            int kind = call < 24 && random.nextBoolean() ? random.nextInt(4) : random.nextInt(KINDS);
            if (kind == 3 && model.wires.size() >= wireCap && wireCap < 24) {
                kind = 9;
            }
            long[] a = arguments(kind, model, random);
            String got = answer(() -> ask(rows, kindOf(a), a));
            String want = answer(() -> model.ask(kindOf(a), a));
            if (!got.equals(want)) {
                CHECK.report("run " + run + ", call " + call + ", kind " + kind + " "
                        + java.util.Arrays.toString(a) + " answered " + got + ", due is " + want);
                return;
            }
        }
    }

    private static int kindOf(long[] a) {
        return (int) a[0];
    }

    private static String answer(Check.Call code) {
        try {
            return Long.toString(code.answer());
        } catch (RuntimeException e) {
            return e.getClass().getName();
        }
    }

    private static long[] arguments(int kind, Model model, Random random) {
        int nodes = model.cavities.size();
        int wires = model.wires.size();
        switch (kind) {
            case 0: return new long[] {kind, edged(random, 1, 16)};
            case 1: return new long[] {kind};
            case 2: return new long[] {kind, index(random, nodes), index(random, nodes), length(random)};
            case 3:
            case 12: return ends(kind, model, random);
            case 4: return new long[] {kind, index(random, wires), amount(random, 0), amount(random, 0)};
            case 6: return new long[] {kind, index(random, 10), amount(random, 1), amount(random, 1), amount(random, 1)};
            case 8: return slack(kind, random);
            case 9: return new long[] {kind, reel(model, random)};
            case 11: return new long[] {kind, index(random, wires), index(random, wires)};
            case 15: return new long[] {kind, index(random, model.variants), index(random, wires), random.nextInt(2)};
            case 16: return new long[] {kind, random.nextInt(8) - 1, index(random, 2)};
            case 17: return new long[] {kind, index(random, model.bundles.size()), random.nextInt(17) - 1};
            case 14: return new long[] {kind};
            default: return new long[] {kind, index(random, wires)};
        }
    }

    private static long[] ends(int kind, Model model, Random random) {
        int a = (int) index(random, model.cavities.size());
        int b = (int) index(random, model.cavities.size());
        return new long[] {kind, a, cavity(model, a, random), b, cavity(model, b, random)};
    }

    private static long cavity(Model model, int node, Random random) {
        boolean there = node >= 0 && node < model.cavities.size();
        return index(random, there ? model.cavities.get(node) : 3);
    }

    private static long[] slack(int kind, Random random) {
        long below = random.nextBoolean() ? edged(random, 1, 12) : edged(random, 1, 1000);
        return new long[] {kind, edged(random, 0, Math.max(below, 0)), below};
    }

    private static long reel(Model model, Random random) {
        long longest = 1;
        for (int i = 0; i < model.wires.size(); i++) {
            longest = Math.max(longest, model.cut(i));
        }
        return random.nextInt(8) == 0 ? edged(random, 1, 10_000_000) : longest * (10 + random.nextInt(20)) / 10 - random.nextInt(2);
    }

    private static long length(Random random) {
        return random.nextBoolean() ? edged(random, 1, 30) : edged(random, 1, 100_000);
    }

    private static long amount(Random random, int least) {
        return random.nextBoolean() ? edged(random, least, 4) : edged(random, least, 1_000_000);
    }

    private static long index(Random random, int count) {
        int roll = random.nextInt(40);
        if (roll == 0) {
            return random.nextBoolean() ? -1 : Integer.MIN_VALUE;
        }
        if (roll == 1 || count == 0) {
            return random.nextBoolean() ? count : Integer.MAX_VALUE;
        }
        return random.nextInt(count);
    }

    private static long edged(Random random, long least, long most) {
        switch (random.nextInt(24)) {
            case 0: return least;
            case 1: return most;
            case 2: return least - 1;
            case 3: return most + 1;
            default: return least + (long) (random.nextDouble() * (most - least + 1));
        }
    }

    private static long ask(HarnessRows x, int kind, long[] a) {
        switch (kind) {
            case 0: return x.connector((int) a[1]);
            case 1: return x.node();
            case 2: return x.bundle((int) a[1], (int) a[2], a[3]);
            case 3: return x.wire((int) a[1], (int) a[2], (int) a[3], (int) a[4]);
            case 4: return Check.number(x.load((int) a[1], a[2], a[3]));
            case 5: return x.gauge((int) a[1]);
            case 6: return Check.number(x.table((int) a[1], a[2], a[3], a[4]));
            case 7: return x.length((int) a[1]);
            case 8: return Check.number(x.slack(a[1], a[2]));
            case 9: return x.reel(a[1]);
            case 10: return x.reelOf((int) a[1]);
            case 11: return x.splice((int) a[1], (int) a[2]);
            case 12: return Check.number(x.joined((int) a[1], (int) a[2], (int) a[3], (int) a[4]));
            case 13: return x.colour((int) a[1]);
            case 14: return x.variant();
            case 15: return Check.number(x.has((int) a[1], (int) a[2], a[3] == 1));
            case 16: return x.told((int) a[1], (int) a[2]);
            default: return x.command((int) a[1], (int) a[2]);
        }
    }

    /** What the document says, kept as plain lists and worked out anew at each call. */
    private static final class Model {
        final List<Integer> cavities = new ArrayList<>();
        final List<long[]> bundles = new ArrayList<>();
        final List<int[]> wires = new ArrayList<>();
        final List<long[]> loads = new ArrayList<>();
        final List<int[]> splices = new ArrayList<>();
        final long[][] table = new long[10][];
        final Boolean[][] told = new Boolean[6][24];
        int variants = 0;
        long above = 0;
        long below = 1;
        Integer[] reels = new Integer[24];

        long ask(int kind, long[] a) {
            switch (kind) {
                case 0: return connector(a[1]);
                case 1: return addNode(0);
                case 2: return bundle(a[1], a[2], a[3]);
                case 3: return wire(a);
                case 4: return load(a[1], a[2], a[3]);
                case 5: return gauge((int) inside(a[1], wires.size()));
                case 6: return tell(a);
                case 7: return cut((int) inside(a[1], wires.size()));
                case 8: return slack(a[1], a[2]);
                case 9: return pack(a[1]);
                case 10: return reelOf((int) inside(a[1], wires.size()));
                case 11: return splice((int) inside(a[1], wires.size()), (int) inside(a[2], wires.size()));
                case 12: return joined(a);
                case 13: return colours()[(int) inside(a[1], wires.size())];
                case 14: return variants == 6 ? -1 : variants++;
                case 15: return has((int) inside(a[1], variants), (int) inside(a[2], wires.size()), a[3] == 1);
                case 16: return toldOf(a[1], (int) inside(a[2], 2));
                default: return command((int) inside(a[1], bundles.size()), a[2]);
            }
        }

        private static long inside(long index, int count) {
            if (index < 0 || index >= count) {
                throw new IndexOutOfBoundsException();
            }
            return index;
        }

        private static void ranged(long number, long least, long most) {
            if (number < least || number > most) {
                throw new IllegalArgumentException();
            }
        }

        private long connector(long count) {
            ranged(count, 1, 16);
            return addNode((int) count);
        }

        private long addNode(int count) {
            if (cavities.size() == 16) {
                return -1;
            }
            cavities.add(count);
            return cavities.size() - 1;
        }

        private long bundle(long a, long b, long length) {
            inside(a, cavities.size());
            inside(b, cavities.size());
            ranged(length, 1, 100_000);
            if (way(a, b, -1) >= 0) {
                return -1;
            }
            bundles.add(new long[] {a, b, length});
            return bundles.size() - 1;
        }

        // Walks the tree from a, never back over the bundle that it came by.
        private long way(long a, long b, int by) {
            if (a == b) {
                return 0;
            }
            for (int i = 0; i < bundles.size(); i++) {
                long[] bundle = bundles.get(i);
                if (i != by && (bundle[0] == a || bundle[1] == a)) {
                    long rest = way(bundle[0] == a ? bundle[1] : bundle[0], b, i);
                    if (rest >= 0) {
                        return rest + bundle[2];
                    }
                }
            }
            return -1;
        }

        private void cavity(long connector, long cavity) {
            inside(connector, cavities.size());
            inside(cavity, cavities.get((int) connector));
        }

        private long wire(long[] a) {
            cavity(a[1], a[2]);
            cavity(a[3], a[4]);
            int first = (int) (16 * a[1] + a[2]);
            int other = (int) (16 * a[3] + a[4]);
            boolean taken = first == other || wires.size() == 24;
            for (int[] wire : wires) {
                taken |= wire[0] == first || wire[1] == first || wire[0] == other || wire[1] == other;
            }
            if (taken) {
                return -1;
            }
            wires.add(new int[] {first, other});
            loads.add(new long[] {0, 1_000_000});
            return wires.size() - 1;
        }

        private long load(long wire, long milliampere, long drop) {
            inside(wire, wires.size());
            ranged(milliampere, 0, 1_000_000);
            ranged(drop, 0, 1_000_000);
            long[] before = loads.set((int) wire, new long[] {milliampere, drop});
            return before[0] != milliampere || before[1] != drop ? 1 : 0;
        }

        private long gauge(int wire) {
            long cut = cut(wire);
            int best = -1;
            for (int row = 9; row >= 0 && cut >= 0; row--) {
                boolean less = table[row] != null && (best < 0 || table[row][0] <= table[best][0]);
                if (less && willDo(table[row], loads.get(wire), cut)) {
                    best = row;
                }
            }
            return best;
        }

        private static boolean willDo(long[] row, long[] load, long cut) {
            java.math.BigInteger drop = java.math.BigInteger.valueOf(load[0])
                    .multiply(java.math.BigInteger.valueOf(row[2])).multiply(java.math.BigInteger.valueOf(cut));
            return row[1] >= load[0] && drop.compareTo(java.math.BigInteger.valueOf(load[1] * 1_000_000_000L)) <= 0;
        }

        private long tell(long[] a) {
            int row = (int) inside(a[1], 10);
            long[] now = {a[2], a[3], a[4]};
            for (long number : now) {
                ranged(number, 1, 1_000_000);
            }
            long[] before = table[row];
            table[row] = now;
            return java.util.Arrays.equals(before, now) ? 0 : 1;
        }

        long cut(int wire) {
            long way = way(wires.get(wire)[0] / 16, wires.get(wire)[1] / 16, -1);
            if (way < 0) {
                return -1;
            }
            long more = way * above / below;
            return way + more + (more * below < way * above ? 1 : 0);
        }

        private long slack(long newAbove, long newBelow) {
            ranged(newBelow, 1, 1000);
            ranged(newAbove, 0, newBelow);
            long other = above != newAbove || below != newBelow ? 1 : 0;
            above = newAbove;
            below = newBelow;
            return other;
        }

        private long pack(long length) {
            ranged(length, 1, 10_000_000);
            List<Integer> packed = new ArrayList<>();
            reels = new Integer[24];
            for (int i = 0; i < wires.size(); i++) {
                if (cut(i) > length) {
                    return -1;
                }
                if (cut(i) >= 0) {
                    packed.add(i);
                }
            }
            if (packed.size() > 8) {
                return packLongestFirst(packed, length);
            }
            int count = 0;
            while (!fits(packed, 0, new long[count], length)) {
                count++;
            }
            return count;
        }

        // Tries each reel for each wire in rising order, so the first way is the lowest one.
        private boolean fits(List<Integer> packed, int at, long[] filled, long length) {
            if (at == packed.size()) {
                return true;
            }
            int wire = packed.get(at);
            for (int reel = 0; reel < filled.length; reel++) {
                if (filled[reel] + cut(wire) <= length) {
                    filled[reel] += cut(wire);
                    reels[wire] = reel;
                    if (fits(packed, at + 1, filled, length)) {
                        return true;
                    }
                    filled[reel] -= cut(wire);
                }
            }
            return false;
        }

        private long packLongestFirst(List<Integer> packed, long length) {
            packed.sort((a, b) -> cut(a) != cut(b) ? Long.compare(cut(b), cut(a)) : Integer.compare(a, b));
            List<Long> filled = new ArrayList<>();
            for (int wire : packed) {
                int reel = 0;
                while (reel < filled.size() && filled.get(reel) + cut(wire) > length) {
                    reel++;
                }
                if (reel == filled.size()) {
                    filled.add(0L);
                }
                filled.set(reel, filled.get(reel) + cut(wire));
                reels[wire] = reel;
            }
            return filled.size();
        }

        private long reelOf(int wire) {
            return reels[wire] == null ? -1 : reels[wire];
        }

        private long splice(int a, int b) {
            for (int[] pair : splices) {
                if (pair[0] == a && pair[1] == b || pair[0] == b && pair[1] == a) {
                    return -1;
                }
            }
            if (a == b || splices.size() == 20) {
                return -1;
            }
            splices.add(new int[] {a, b});
            return splices.size();
        }

        private long joined(long[] a) {
            cavity(a[1], a[2]);
            cavity(a[3], a[4]);
            boolean[] reached = new boolean[256];
            reached[(int) (16 * a[1] + a[2])] = true;
            for (int round = 0; round < 50; round++) {
                for (int[] wire : wires) {
                    reached[wire[0]] |= reached[wire[1]];
                    reached[wire[1]] |= reached[wire[0]];
                }
                for (int[] pair : splices) {
                    reached[wires.get(pair[0])[0]] |= reached[wires.get(pair[1])[0]];
                    reached[wires.get(pair[1])[0]] |= reached[wires.get(pair[0])[0]];
                }
            }
            return reached[(int) (16 * a[3] + a[4])] ? 1 : 0;
        }

        private int[] colours() {
            int[] colours = new int[wires.size()];
            for (int i = 0; i < colours.length; i++) {
                for (int j = 0; j < i; j++) {
                    if (meet(i, j) && colours[j] == colours[i]) {
                        colours[i]++;
                        j = -1;
                    }
                }
            }
            return colours;
        }

        private boolean meet(int i, int j) {
            for (int a : wires.get(i)) {
                for (int b : wires.get(j)) {
                    if (a / 16 == b / 16) {
                        return true;
                    }
                }
            }
            return false;
        }

        private boolean isOn(int variant, int wire) {
            if (told[variant][wire] != null) {
                return told[variant][wire];
            }
            return variant == 0 || isOn(variant - 1, wire);
        }

        private long has(int variant, int wire, boolean on) {
            boolean before = isOn(variant, wire);
            told[variant][wire] = on;
            return before != on ? 1 : 0;
        }

        private long toldOf(long k, int side) {
            List<int[]> off = new ArrayList<>();
            for (int i = 0; i < wires.size() && variants > 0; i++) {
                if (!isOn(variants - 1, i)) {
                    off.add(wires.get(i));
                }
            }
            return k >= 0 && k < off.size() ? off.get((int) k)[side] : -1;
        }

        private long command(int k, long i) {
            inside(i, Integer.MAX_VALUE);
            long[] bundle = bundles.get(k);
            String text = named(bundle[0]) + "-" + named(bundle[1]) + " " + bundle[2];
            return i < text.length() ? text.charAt((int) i) : -1;
        }

        private String named(long node) {
            return (cavities.get((int) node) > 0 ? "C" : "N") + node;
        }
    }
}
