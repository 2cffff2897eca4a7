import java.util.ArrayList;
import java.util.List;

/**
 * A call that is refused, by an exception or by NONE, changes nothing: of two objects that are
 * made alike, the one that refused a call answers all calls behind it as the other one does.
 */
public final class RefusedTest {
    private static final Check CHECK = new Check();
    private static final int CALLS_LIMIT = 512;

    /** A call that is due to be refused. */
    private interface Refused {
        long ask(HarnessRows x);
    }

    private static final String[] NAMES = {"empty", "half full", "full"};
    private static int calls = 0;

    public static void main(String[] args) {
        for (int state = 0; state < NAMES.length; state++) {
            refusedOneByOne(state, throwing(), true);
            refusedAllTogether(state, throwing(), true);
        }
        refusedOneByOne(1, noneWhenHalfFull(), false);
        refusedAllTogether(1, noneWhenHalfFull(), false);
        refusedOneByOne(2, noneWhenFull(), false);
        refusedAllTogether(2, noneWhenFull(), false);
        questionsChangeNothing();
        CHECK.end();
    }

    private static HarnessRows made(int state) {
        HarnessRows x = new HarnessRows();
        calls = 0;
        if (state == 1) {
            makeHalfFull(x);
        } else if (state == 2) {
            makeFull(x);
        }
        return x;
    }

    private static void makeHalfFull(HarnessRows x) {
        x.connector(4);
        x.node();
        x.connector(3);
        x.connector(2);
        x.bundle(0, 1, 100);
        x.bundle(2, 1, 50);
        x.wire(0, 0, 2, 0);
        x.wire(0, 1, 0, 2);
        x.wire(3, 0, 2, 1);
        x.slack(1, 7);
        x.table(0, 9, 100, 1000);
        x.table(5, 7, 50, 1000);
        x.load(0, 60, 500);
        x.load(1, 50, 0);
        x.reel(172);
        x.splice(0, 2);
        x.variant();
        x.variant();
        x.has(0, 1, false);
        x.has(1, 2, false);
        calls += 20;
    }

    private static void makeFull(HarnessRows x) {
        for (int i = 0; i < 16; i++) {
            x.connector(3);
        }
        for (int i = 1; i < 16; i++) {
            x.bundle(i - 1, i, 10 * i);
        }
        for (int i = 0; i < 24; i++) {
            x.wire(i % 8, i / 8, 8 + (i + i / 8) % 8, i / 8);
            x.load(i, 10 * i, 20 * i);
        }
        for (int i = 0; i < 10; i++) {
            x.table(i, 1000 - i, 300 - 25 * i, 1_000_000 - i);
        }
        for (int i = 0; i < 20; i++) {
            x.splice(i, (i + 2) % 24);
        }
        for (int i = 0; i < 6; i++) {
            x.variant();
            x.has(i, 3 * i, false);
        }
        x.slack(3, 11);
        x.reel(2000);
        calls += 16 + 15 + 48 + 10 + 20 + 12 + 2;
    }

    /** Calls that throw in each of the three states. */
    private static List<Refused> throwing() {
        List<Refused> all = new ArrayList<>();
        all.add(x -> x.connector(0));
        all.add(x -> x.connector(17));
        all.add(x -> x.bundle(-1, 0, 5));
        all.add(x -> x.bundle(0, 16, 5));
        all.add(x -> x.bundle(0, 2, 0));
        all.add(x -> x.bundle(3, 0, 100_001));
        all.add(x -> x.wire(-1, 0, 0, 2));
        all.add(x -> x.wire(0, 3, 16, 0));
        all.add(x -> x.wire(0, 3, 2, 3));
        all.add(x -> x.load(-1, 5, 5) ? 1 : 0);
        all.add(x -> x.load(24, 5, 5) ? 1 : 0);
        all.add(x -> x.load(0, -1, 5) ? 1 : 0);
        all.add(x -> x.load(0, 5, 1_000_001) ? 1 : 0);
        all.add(x -> x.gauge(-1));
        all.add(x -> x.gauge(24));
        all.add(x -> x.table(-1, 5, 5, 5) ? 1 : 0);
        all.add(x -> x.table(10, 5, 5, 5) ? 1 : 0);
        all.add(x -> x.table(0, 0, 5, 5) ? 1 : 0);
        all.add(x -> x.table(0, 5, 1_000_001, 5) ? 1 : 0);
        all.add(x -> x.table(9, 5, 5, 0) ? 1 : 0);
        all.add(x -> x.length(-1));
        all.add(x -> x.length(24));
        all.add(x -> x.slack(1, 0) ? 1 : 0);
        all.add(x -> x.slack(0, 1001) ? 1 : 0);
        all.add(x -> x.slack(-1, 5) ? 1 : 0);
        all.add(x -> x.slack(6, 5) ? 1 : 0);
        all.add(x -> x.reel(0));
        all.add(x -> x.reel(10_000_001));
        all.add(x -> x.reelOf(-1));
        all.add(x -> x.reelOf(24));
        all.add(x -> x.splice(-1, 0));
        all.add(x -> x.splice(1, 24));
        all.add(x -> x.joined(0, 16, 0, 0) ? 1 : 0);
        all.add(x -> x.joined(16, 0, 0, 0) ? 1 : 0);
        all.add(x -> x.colour(-1));
        all.add(x -> x.colour(24));
        all.add(x -> x.has(-1, 0, false) ? 1 : 0);
        all.add(x -> x.has(6, 0, false) ? 1 : 0);
        all.add(x -> x.has(0, 24, false) ? 1 : 0);
        all.add(x -> x.told(0, 2));
        all.add(x -> x.told(0, -1));
        all.add(x -> x.command(-1, 0));
        all.add(x -> x.command(15, 0));
        all.add(x -> x.command(0, -1));
        return all;
    }

    private static List<Refused> noneWhenHalfFull() {
        List<Refused> all = new ArrayList<>();
        all.add(x -> x.bundle(0, 0, 5));
        all.add(x -> x.bundle(0, 1, 5));
        all.add(x -> x.bundle(2, 0, 5));
        all.add(x -> x.wire(0, 0, 3, 1));
        all.add(x -> x.wire(3, 1, 2, 1));
        all.add(x -> x.wire(0, 3, 0, 3));
        all.add(x -> x.splice(1, 1));
        all.add(x -> x.splice(0, 2));
        all.add(x -> x.splice(2, 0));
        all.add(x -> x.told(2, 0));
        all.add(x -> x.told(-1, 1));
        all.add(x -> x.command(1, 99));
        all.add(x -> x.length(2));
        all.add(x -> x.gauge(2));
        all.add(x -> x.reelOf(2));
        return all;
    }

    private static List<Refused> noneWhenFull() {
        List<Refused> all = new ArrayList<>();
        all.add(x -> x.connector(16));
        all.add(HarnessRows::node);
        all.add(x -> x.bundle(0, 15, 5));
        all.add(x -> x.bundle(7, 7, 5));
        all.add(x -> x.wire(0, 0, 15, 2));
        all.add(x -> x.wire(1, 1, 1, 1));
        all.add(x -> x.splice(22, 23));
        all.add(x -> x.splice(23, 0));
        all.add(HarnessRows::variant);
        all.add(x -> x.told(24, 0));
        return all;
    }

    private static void refusedOneByOne(int state, List<Refused> refusals, boolean byThrow) {
        for (int i = 0; i < refusals.size(); i++) {
            CHECK.about("refused call " + i + (byThrow ? " that throws, " : " that is NONE, ") + NAMES[state]);
            HarnessRows one = made(state);
            refuse(one, refusals.get(i), byThrow);
            sameBehindIt(one, state);
        }
    }

    private static void refusedAllTogether(int state, List<Refused> refusals, boolean byThrow) {
        CHECK.about("all refused calls" + (byThrow ? " that throw, " : " that are NONE, ") + NAMES[state]);
        HarnessRows one = made(state);
        for (Refused refused : refusals) {
            refuse(one, refused, byThrow);
        }
        sameBehindIt(one, state);
    }

    private static void refuse(HarnessRows x, Refused refused, boolean byThrow) {
        calls++;
        boolean thrown = false;
        try {
            CHECK.same("the call", -1, refused.ask(x));
        } catch (IllegalArgumentException | IndexOutOfBoundsException e) {
            // Which exception it is, the promises' own tests look at.
            thrown = true;
        }
        CHECK.same("the call throws", byThrow ? 1 : 0, thrown ? 1 : 0);
    }

    private static void sameBehindIt(HarnessRows one, int state) {
        int before = calls;
        List<Long> want = answers(made(state));
        calls = before;
        List<Long> got = answers(one);
        CHECK.yes("no more than 512 calls: " + calls, calls <= CALLS_LIMIT);
        for (int i = 0; i < want.size(); i++) {
            CHECK.same("answer " + i + " behind it", want.get(i), got.get(i));
        }
    }

    /** Asks for all that can be asked, then tells what shows the numbers that come next. */
    private static List<Long> answers(HarnessRows x) {
        List<Long> all = new ArrayList<>();
        for (int wire = 0; wire < 24; wire++) {
            int number = wire;
            add(all, () -> x.length(number));
            add(all, () -> x.gauge(number));
            add(all, () -> x.reelOf(number));
            add(all, () -> x.colour(number));
            add(all, () -> Check.number(x.joined(0, 0, number % 16, number / 16)));
            add(all, () -> x.told(number, number % 2));
        }
        for (int bundle = 0; bundle < 15; bundle++) {
            int number = bundle;
            add(all, () -> x.command(number, 1));
            add(all, () -> x.command(number, 4));
            add(all, () -> x.command(number, 6));
        }
        addTold(all, x);
        return all;
    }

    private static void addTold(List<Long> all, HarnessRows x) {
        add(all, () -> Check.number(x.slack(1, 7)));
        add(all, () -> Check.number(x.slack(3, 11)));
        for (int row = 0; row < 10; row++) {
            int number = row;
            add(all, () -> Check.number(x.table(number, 1000 - number, 300 - 25 * number, 1_000_000 - number)));
        }
        add(all, () -> Check.number(x.load(0, 60, 500)));
        add(all, () -> Check.number(x.load(1, 50, 0)));
        add(all, () -> Check.number(x.has(1, 2, false)));
        add(all, () -> x.connector(4));
        add(all, x::node);
        add(all, () -> x.bundle(0, 2, 5));
        add(all, () -> x.bundle(0, 3, 5));
        add(all, () -> x.wire(0, 3, 3, 1));
        add(all, () -> x.wire(2, 2, 2, 1));
        add(all, () -> x.splice(0, 1));
        add(all, x::variant);
        add(all, () -> x.reel(1000));
        add(all, () -> x.reelOf(0));
    }

    private static void add(List<Long> all, Check.Call call) {
        calls++;
        try {
            all.add(call.answer());
        } catch (IndexOutOfBoundsException e) {
            all.add(-2L);
        } catch (IllegalArgumentException e) {
            all.add(-3L);
        }
    }

    private static void questionsChangeNothing() {
        CHECK.about("questions, asked twice, half full");
        HarnessRows x = made(1);
        List<Long> first = questions(x);
        List<Long> second = questions(x);
        for (int i = 0; i < first.size(); i++) {
            CHECK.same("question " + i, first.get(i), second.get(i));
        }
    }

    private static List<Long> questions(HarnessRows x) {
        List<Long> all = new ArrayList<>();
        for (int wire = 0; wire < 3; wire++) {
            int number = wire;
            add(all, () -> x.length(number));
            add(all, () -> x.gauge(number));
            add(all, () -> x.reelOf(number));
            add(all, () -> x.colour(number));
            add(all, () -> x.told(number, 0));
            add(all, () -> x.command(number, 3));
            add(all, () -> Check.number(x.joined(0, number, 2, 1)));
        }
        return all;
    }
}
