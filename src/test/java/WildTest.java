import java.lang.management.ManagementFactory;
import java.util.Random;

/** Any calls in any state: none throws, the same calls answer the same, and a run stays in its room. */
public final class WildTest {
    private static final String[] SYSTEMS = {
        "signal s(int), u(bool, pid), o; route a p -> q delay 1 .. 4 with s, u; route b q -> p with u; route c p -> env delay 3 with o; route d env -> p with s; route f env -> q delay 0 .. 2 with u, s; "
            + "process p 1..4 (k: int); var n: int; var a: int[4]; var w: pid; timer t; timer v; start; l: set t 3; output s(n); next a; "
            + "state a; input s(n) if n < 3; a[n] := n; output o; output u(n = 1, self); next b; "
            + "when n > 5 prio 2; n := n / (n - 6); next -; none; create p(n + 1); n := n + 1; next -; state b; save s; input t, u; set v 2; next a; none; join l; state *; input v; reset t; next -; end; "
            + "process q 1..2; var b: bool; var w: pid; start; next z; state z; input u(b, w); output u(not b, self) to w; next -; input *; stop; none; next -; end;",
        "signal s; route r p -> p delay 2 with s; process p 12..12; var n: int; timer t; timer u; timer v; start; set t 1; set u 2; set v 3; output s to self; next a; "
            + "state a; save s; input t; output s to self; set t 4; next -; none; n := n + 1; output s; next -; end;",
        "process p 1..12; var n: int; start; l: n := n + 1; decide n; 250 .. 300: stop; else: join l; end; end;",
    };
    private static final String[] WORDS = ("signal route process var timer start state input save when none next stop join output set reset create decide else end to via with delay env if prio "
        + "int bool pid true false null self sender parent offspring now active waiting not and or chart inst alt opt ( ) [ ] , ; : * + / % = < > - := /= <= >= -> .. "
        + "a b c x 0 1 2 9 200 201 ; ; ; process p 1 .. 1 ; start ; stop ; end ; @").split(" ");
    private static final int[] NUMBERS = {Integer.MIN_VALUE, Integer.MAX_VALUE, -2, -1, 0, 1, 2, 3, 4, 5, 6, 7, 8, 9, 11, 12, 13, 16, 17, 18, 19, 99, 100, 101, 102, 103, 199, 200, 201, 500, 1000, 1001, 5000};

    public static void main(String[] args) {
        for (String system : SYSTEMS) {
            Desk.good(system);
        }
        for (int seed = 0; seed < 160; seed++) {
            long once = wild(seed);
            Desk.due("the same calls, seed " + seed, wild(seed) == once, true);
        }
        room();
        Desk.close("WildTest");
    }

    private static String soup(Random random) {
        StringBuilder text = new StringBuilder();
        for (int n = random.nextInt(60); n > 0; n--) {
            text.append(WORDS[random.nextInt(WORDS.length)]).append(' ');
        }
        return text.toString();
    }

    /** A sum over all answers of some 500 calls, which is what an object is made for. */
    private static long wild(int seed) {
        Random random = new Random(seed);
        Desk desk = new Desk();
        long sum = 0;
        for (int used = 0; used + desk.feeds < 450; used++) {
            int what = random.nextInt(40);
            if (used == 0 || what == 39 && random.nextInt(4) == 0) {
                desk.house.load(0);
                String text = random.nextInt(4) == 0 ? soup(random) : SYSTEMS[random.nextInt(SYSTEMS.length)];
                sum = sum * 31 + desk.load(text);
                desk.house.begin(random.nextInt());
                used += 2;
            } else if (what == 38) {
                desk.house.load(0);
                sum = sum * 31 + desk.chart("chart; inst a = 1; inst b = 2; " + (random.nextBoolean() ? "a -> b : s; opt b -> a : u; end;" : soup(random)));
                used++;
            } else {
                sum = sum * 31 + call(desk.house, what, random);
            }
        }
        return sum;
    }

    private static int number(Random random) {
        return random.nextInt(3) == 0 ? NUMBERS[random.nextInt(NUMBERS.length)] : random.nextInt(6);
    }

    private static long call(ExchangeHouse x, int what, Random random) {
        int a = number(random);
        int b = number(random);
        int c = number(random);
        switch (what) {
            case 0: return x.feed(a, b, c, a, b) ? 1 : 0;
            case 1: return x.place();
            case 2: return x.warning(a, b);
            case 3: return random.nextInt(5) == 0 ? x.begin(a) : 0;
            case 4: case 5: case 6: return x.run(a);
            case 7: case 8: return x.go(a);
            case 9: case 10: return x.none(a, b);
            case 11: return x.wait(a);
            case 12: case 13: case 14: return x.put(a, b, c, a, b);
            case 15: return x.alive(a);
            case 16: case 17: return x.instance(a, b);
            case 18: return x.cell(a, b);
            case 19: return x.timer(a, b);
            case 20: case 21: return x.queued(a, b, c);
            case 22: case 23: return x.way(a, b, c);
            case 24: return x.out(a, b);
            case 25: case 26: return x.event(a, b);
            case 27: case 28: return x.count(a);
            case 29: return x.type(a, b);
            case 30: return x.search(a);
            case 31: return x.state(a, b);
            case 32: case 33: return x.first(a, b, c);
            case 34: case 35: return x.visit(a);
            case 36: return x.choices(a);
            default: return random.nextInt(8) == 0 ? x.load(a) : x.count(b);
        }
    }

    /** The dearest calls, as often as an object can be called: they make next to nothing. */
    private static void room() {
        com.sun.management.ThreadMXBean threads = (com.sun.management.ThreadMXBean) ManagementFactory.getThreadMXBean();
        long id = Thread.currentThread().getId();
        long before = threads.getThreadAllocatedBytes(id);
        ExchangeHouse made = new ExchangeHouse();
        long made1 = threads.getThreadAllocatedBytes(id);
        Desk.due("a new object has at most 2,000 bytes, not " + (made1 - before), made1 - before < 2000, true);
        Desk desk = Desk.started(SYSTEMS[1], 3);
        desk.house.run(12);
        before = threads.getThreadAllocatedBytes(id);
        for (int i = 0; i < 90; i++) {
            desk.house.search(200);
            desk.house.run(100);
            desk.house.visit(i);
            desk.house.begin(i);
            desk.house.load(0);
        }
        long all = threads.getThreadAllocatedBytes(id) - before;
        Desk.due("450 calls make at most 4,000,000 bytes, not " + all, all < 4000000, true);
        Desk.due("made", made.count(14), 0);
    }
}
