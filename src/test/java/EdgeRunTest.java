/** The boundaries of RUNS and of THE TRACE: 12 alive, queues and rows of 6, the 201st act, the latest time, 32 bits. */
public final class EdgeRunTest {
    private static final int LATEST = 2000000000;
    private static final int[] VALUES = {Integer.MIN_VALUE, Integer.MIN_VALUE + 1, -46341, -2, -1, 0, 1, 2, 46341, 65536, Integer.MAX_VALUE - 1, Integer.MAX_VALUE};

    public static void main(String[] args) {
        twelveAtFirst();
        twelveByCreate();
        secondCount();
        queueByOutput();
        queueByRoute();
        queueByTimer();
        rowOfSix();
        rowToEnv();
        acts();
        latestTime();
        timesThatWouldBeLater();
        wholesGoRound();
        indexes();
        divisors();
        receivers();
        turns();
        draws();
        trace();
        outs();
        ranges();
        prios();
        due();
        stopping();
        seeds();
        Desk.close("EdgeRunTest");
    }

    private static void twelveAtFirst() {
        String rest = "; start; next z; state z; end; ";
        Desk desk = Desk.started("process a 5..5" + rest + "process b 8..8" + rest + "process c 1..1" + rest, 1);
        ExchangeHouse x = desk.house;
        Desk.due("alive", x.count(5), 12);
        Desk.due("made", x.count(6), 12);
        Desk.due("events", x.count(13), 12);
        Desk.same("types", Desk.row(1, 13, pid -> x.instance(pid, 0)), "0 0 0 0 0 1 1 1 1 1 1 1 -1");
        Desk.same("pids", Desk.row(-1, 12, x::alive), "-1 1 2 3 4 5 6 7 8 9 10 11 12 -1");
        Desk.due("each does its start", x.run(1000), 12);
        Desk twelve = new Desk();
        twelve.load("process a 12..12" + rest);
        Desk.due("just twelve", twelve.house.begin(0), 12);
        twelve.load("process a 11..12" + rest + "process b 1..1" + rest);
        Desk.due("just twelve", twelve.house.begin(0), 12);
        Desk.due("the last one is of the second type", twelve.house.instance(12, 0), 1);
        twelve.load("process a 13..13" + rest);
        Desk.due("one too many", twelve.house.begin(0), 12);
        twelve.load("process a 0..12; start; create a; stop; end;");
        Desk.due("nobody", twelve.house.begin(0), 0);
        Desk.due("nobody", twelve.house.alive(0), -1);
        Desk.due("it rests", twelve.house.run(1), 0);
        Desk.due("no event", twelve.house.count(13), 0);
    }

    private static void twelveByCreate() {
        Desk desk = Desk.started("process m 1..1; var n: int; start; next a; state a; none; create k(n); n := n + 1; next -; end; "
            + "process k 0..200 (i: int); start; stop; end;", 1);
        ExchangeHouse x = desk.house;
        x.run(1);
        for (int i = 0; i < 11; i++) {
            x.none(1, 0);
            Desk.due("offspring " + i, x.instance(1, 5), i + 2);
            Desk.due("its parameter", x.cell(i + 2, 0), i);
        }
        int events = x.count(13);
        Desk.due("twelve are alive", x.count(5), 12);
        x.none(1, 0);
        Desk.due("the thirteenth is not made", x.count(5), 12);
        Desk.due("made", x.count(6), 12);
        Desk.due("offspring is null", x.instance(1, 5), 0);
        Desk.due("what is behind is done", x.cell(1, 0), 12);
        desk.events("nothing else", events, "5 1 -1 0");
        Desk.due("one stops", x.go(5), 1);
        x.none(1, 0);
        Desk.due("numbers go on", x.instance(1, 5), 13);
        Desk.due("the number of one that stopped is not used again", x.instance(5, 0), -1);
        Desk.due("the last one by pids", x.alive(11), 13);
        Desk.due("its parameter", x.cell(13, 0), 12);
        x.none(1, 0);
        Desk.due("again there are twelve", x.instance(1, 5), 0);
    }

    private static void secondCount() {
        Desk full = Desk.started("process m 1..1; start; create k; next a; state a; end; process k 2..2; start; stop; end;", 1);
        Desk.due("start", full.house.go(1), 1);
        Desk.due("as many as the second count from the first", full.house.instance(1, 5), 0);
        Desk.due("alive", full.house.count(5), 3);
        Desk.due("one stops", full.house.go(3), 1);
        Desk none = Desk.started("process m 1..1; start; create k; next a; state a; end; process k 0..0; start; stop; end;", 1);
        none.house.run(9);
        Desk.due("a second count of 0", none.house.count(6), 1);
        Desk own = Desk.started("process p 1..2; start; create p; next a; state a; none; create p; next -; none; stop; end;", 1);
        Desk.due("each does its start", own.house.run(9), 2);
        Desk.due("the first made the second", own.house.instance(1, 5), 2);
        Desk.due("the second made none", own.house.instance(2, 5), 0);
        own.house.none(1, 1);
        own.house.none(2, 0);
        Desk.due("one that makes another of its own type", own.house.instance(2, 5), 3);
        own.house.none(2, 0);
        Desk.due("offspring is null again", own.house.instance(2, 5), 0);
    }

    private static void queueByOutput() {
        Desk desk = Desk.started("signal s(int); route r p -> q with s; process p 1..1; var n: int; start; next a; state a; none; n := n + 1; output s(n); next -; end; "
            + "process q 1..1; var k: int; var w: int; start; next a; state a; save s; none; next b; state b; input s(k); w := waiting; next a; end;", 1);
        ExchangeHouse x = desk.house;
        x.run(2);
        for (int i = 1; i <= 6; i++) {
            x.none(1, 0);
            Desk.due("in the queue", x.instance(2, 2), i);
        }
        Desk.due("nothing lost", x.count(7), 0);
        int events = x.count(13);
        x.none(1, 0);
        desk.events("the seventh is lost", events, "1 1 0 2", "3 2 0 1", "5 1 -1 0");
        Desk.due("lost", x.count(7), 1);
        Desk.same("what is there", Desk.row(0, 6, i -> x.queued(2, i, 2)), "1 2 3 4 5 6 -1");
        x.none(2, 0);
        x.go(2);
        Desk.due("the first one is taken", x.cell(2, 0), 1);
        Desk.due("five are waiting then", x.cell(2, 1), 5);
        x.none(1, 0);
        Desk.due("there is room again", x.queued(2, 5, 2), 8);
        Desk.due("lost", x.count(7), 1);
    }

    private static void queueByRoute() {
        Desk desk = Desk.started("signal s(int), u; route d env -> p delay 2 with s; route e env -> p with u; process p 1..1; start; next a; state a; save *; none; stop; end;", 1);
        ExchangeHouse x = desk.house;
        x.run(1);
        Desk.due("put", x.put(0, 1, 5, 0, 0), 1);
        Desk.due("put", x.put(0, 1, 6, 0, 0), 1);
        for (int i = 0; i < 5; i++) {
            Desk.due("put", x.put(1, 1, 0, 0, 0), 1);
        }
        x.wait(2);
        int events = x.count(13);
        x.go(1);
        Desk.due("the sixth arrived", x.queued(1, 5, 2), 5);
        Desk.due("the seventh did not", x.instance(1, 2), 6);
        desk.events("it is lost", events, "3 1 0 0");
        Desk.due("nothing is on the way", x.way(0, 0, 0), -1);
        Desk.due("put is done, and lost", x.put(1, 1, 0, 0, 0), 1);
        desk.events("it is lost", events + 1, "3 1 1 0");
        x.put(0, 1, 9, 0, 0);
        x.none(1, 0);
        Desk.due("stopped", x.count(5), 0);
        events = x.count(13);
        x.wait(2);
        x.go(1);
        desk.events("one that is not alive any more", events, "3 1 0 0");
        Desk.due("lost: two, six of the queue, one", x.count(7), 9);
        Desk.due("nobody is there to put to", x.put(1, 1, 0, 0, 0), 0);
    }

    private static void queueByTimer() {
        Desk desk = Desk.started("signal s; route e env -> p with s; process p 1..1; timer t; timer u; start; set t 3; set u 3; next a; state a; save *; end;", 1);
        ExchangeHouse x = desk.house;
        x.run(1);
        for (int i = 0; i < 5; i++) {
            x.put(0, 1, 0, 0, 0);
        }
        int events = x.count(13);
        Desk.due("no step", x.run(5), 0);
        desk.events("one has room, one has not", events, "8 1 100 1", "8 1 101 1", "3 1 101 1");
        Desk.due("the last of the queue", x.queued(1, 5, 0), 100);
        Desk.due("not set any more", x.timer(1, 0), -1);
        Desk.due("not set any more", x.timer(1, 1), -1);
        Desk.due("lost", x.count(7), 1);
    }

    private static void rowOfSix() {
        Desk desk = Desk.started("signal s(int); route r p -> q delay 3 .. 9 with s; process p 1..1; var n: int; start; next a; state a; none; n := n + 1; output s(n); next -; end; "
            + "process q 1..1; start; next a; state a; input s; next -; end;", 99);
        ExchangeHouse x = desk.house;
        x.run(2);
        for (int i = 0; i < 6; i++) {
            x.none(1, 0);
            Desk.due("on the way", x.way(0, i, 4), i + 1);
        }
        int seed = x.count(15);
        int events = x.count(13);
        x.none(1, 0);
        Desk.due("no draw for the seventh", x.count(15), seed);
        Desk.due("six", x.way(0, 6, 0), -1);
        desk.events("it is lost", events, "1 1 0 2", "3 2 0 1", "5 1 -1 0");
        Desk.due("lost", x.count(7), 1);
        x.run(1);
        x.none(1, 0);
        Desk.due("there is room again, and a draw", x.count(15) != seed, true);
        Desk.due("nothing more is lost", x.count(7), 1);
    }

    private static void rowToEnv() {
        Desk desk = Desk.started("signal s; route o p -> env delay 0 with s; route e env -> p delay 1 with s; process p 1..1; start; next a; state a; none; output s; next -; end;", 1);
        ExchangeHouse x = desk.house;
        x.run(1);
        for (int i = 0; i < 6; i++) {
            // none() lets what is due come first, so the row is filled by one trans at a time.
            x.none(1, 0);
        }
        Desk.due("each came out by the next call", x.count(12), 5);
        Desk six = Desk.started("signal s; route o p -> env delay 5 with s; process p 1..1; start; output s; output s; output s; output s; output s; output s; output s; next a; state a; end;", 1);
        six.house.run(1);
        Desk.due("six", six.house.way(0, 5, 2), 0);
        Desk.due("lost", six.house.count(7), 1);
        six.events("the seventh was sent, and lost, to env", 7, "1 1 0 0", "3 0 0 1", "5 1 -1 0");
    }

    /** 197 acts, decides and lasts, then some more, in each kind of trans. */
    private static void acts() {
        String loop = "l: n := n + 1; decide n; 1 .. 65: join l; end; ";
        String[] places = {"start; % next a; state a; ", "start; next a; state a; input s; % next -; ", "start; next a; state a; when n = 0; % next -; ", "start; next a; state a; none; % next -; "};
        for (int kind = 0; kind < places.length; kind++) {
            for (int more = 1; more <= 4; more++) {
                String text = "signal s; route e env -> p with s; process p 1..1; var n: int; var k: int; " + places[kind].replace("%", loop + Desk.repeat("k := %; ", more)) + "end;";
                Desk desk = Desk.started(text, 1);
                ExchangeHouse x = desk.house;
                Desk.due("start", x.go(1), 1);
                if (kind == 1) {
                    x.put(0, 1, 0, 0, 0);
                }
                Desk.due("done", kind == 0 ? 1 : kind == 3 ? x.none(1, 0) : x.go(1), 1);
                Desk.due("197 and " + more + " and a last", x.count(9), more > 2 ? 4 : 0);
                Desk.due("errors", x.count(8), more > 2 ? 1 : 0);
                String at = more == 3 ? "next " + (kind == 0 ? "a" : "-") : "k := 3";
                Desk.due("its place", x.count(10), more > 2 ? text.lastIndexOf(at) : 0);
                Desk.due("alive", x.count(5), more > 2 ? 0 : 1);
            }
        }
        // A stop, or a join, as the 200th and as the 201st.
        for (int more = 2; more <= 3; more++) {
            String text = "process p 1..1; var n: int; var k: int; start; " + loop + Desk.repeat("k := %; ", more);
            Desk stop = Desk.started(text + "stop; end;", 1);
            stop.house.run(1);
            Desk.due("a stop is a last", stop.house.count(8), more - 2);
            Desk join = Desk.started(text + "join e; state a; none; e: stop; end;", 1);
            join.house.run(1);
            Desk.due("a join is a last, and then comes another", join.house.count(10), more == 2 ? (text + "join e; state a; none; e: ").length() : text.length());
        }
    }

    private static void latestTime() {
        Desk desk = Desk.started("signal s; route r env -> p delay 200 with s; route q env -> p delay 1 .. 9 with u; signal u; process p 1..1; timer t; timer v; start; set t 999999999 * 2 + 1; next a; "
            + "state a; input t; next b; state b; save s, u, v; none; set t 1; next -; none; set t 2; set v 999999999 * 2; next -; none; set t 0 - 1; next -; end;", 1);
        ExchangeHouse x = desk.house;
        x.go(1);
        Desk.due("one short of the latest", x.timer(1, 0), LATEST - 1);
        Desk.due("run", x.run(5), 1);
        Desk.due("now", x.count(4), LATEST - 1);
        x.none(1, 0);
        Desk.due("just the latest", x.timer(1, 0), LATEST);
        x.none(1, 1);
        Desk.due("what would be later is then", x.timer(1, 0), LATEST);
        Desk.due("what would be later is then", x.timer(1, 1), LATEST);
        x.put(0, 1, 0, 0, 0);
        Desk.due("what would arrive later does then", x.way(0, 0, 3), LATEST);
        Desk.due("wait", x.wait(0), LATEST - 1);
        Desk.due("wait", x.wait(1), LATEST);
        Desk.due("wait", x.wait(1), LATEST);
        Desk.due("wait", x.wait(1000000), LATEST);
        x.put(1, 1, 0, 0, 0);
        Desk.due("so it is with a draw", x.way(1, 0, 3), LATEST);
        Desk.due("all comes then, and a timer is lost, which nothing tells", x.run(9), 1);
        Desk.due("now", x.count(4), LATEST);
        Desk.same("the queue", Desk.row(0, 3, i -> x.queued(1, i, 0)), "0 1 101 -1");
        x.none(1, 2);
        Desk.due("below 0 is now", x.timer(1, 0), LATEST);
    }

    private static void timesThatWouldBeLater() {
        Desk desk = Desk.started("signal i(int); route e env -> p with i; process p 1..1; var n: int; timer t; start; next a; state a; input i(n); set t n; next -; input t; next -; end;", 1);
        ExchangeHouse x = desk.house;
        x.go(1);
        x.wait(1000000);
        int[] by = {0, 1, -1, LATEST - 1000001, LATEST - 1000000, LATEST - 999999, Integer.MAX_VALUE, Integer.MIN_VALUE};
        int[] want = {1000000, 1000001, 1000000, LATEST - 1, LATEST, LATEST, LATEST, 1000000};
        for (int k = 0; k < by.length; k++) {
            x.put(0, 1, by[k], 0, 0);
            x.go(1);
            Desk.due("set by " + by[k], x.timer(1, 0), want[k]);
            // One that is due already is taken, so that the queue is empty again.
            x.go(1);
        }
    }

    private static void wholesGoRound() {
        String acts = "none; r := n + 1; next -; none; r := n - 1; next -; none; r := - n; next -; none; r := n * n; next -; none; r := n * 3; next -; "
            + "none; r := n / - 1; next -; none; r := n % - 1; next -; none; r := n / 2; next -; none; r := n % 7; next -; none; r := 5 - n; next -; ";
        Desk desk = Desk.started("signal i(int); route e env -> p with i; process p 1..1; var n: int; var r: int; start; next a; state a; input i(n); next -; " + acts + "end;", 1);
        ExchangeHouse x = desk.house;
        x.go(1);
        for (int n : VALUES) {
            x.put(0, 1, n, 0, 0);
            x.go(1);
            int[] want = {n + 1, n - 1, -n, n * n, n * 3, -n, 0, n / 2, n % 7, 5 - n};
            for (int k = 0; k < want.length; k++) {
                x.none(1, k);
                Desk.due("act " + k + " of " + n, x.cell(1, 1), want[k]);
            }
        }
        Desk.due("no error", x.count(8), 0);
        Desk less = Desk.started("signal i(int); route e env -> p with i; process p 1..1; var n: int; var b: bool[4]; start; next a; state a; input i(n); b[0] := n < 0; b[1] := n > 0; b[2] := n <= - 1; b[3] := n >= 999999999 + 999999999 + 147483649; next -; end;", 1);
        less.house.go(1);
        for (int n : VALUES) {
            less.house.put(0, 1, n, 0, 0);
            less.house.go(1);
            String want = (n < 0 ? "1 " : "0 ") + (n > 0 ? "1 " : "0 ") + (n <= -1 ? "1 " : "0 ") + (n == Integer.MAX_VALUE ? "1" : "0");
            Desk.same("relations of " + n, Desk.row(1, 4, k -> less.house.cell(1, k)), want);
        }
    }

    private static void indexes() {
        String text = "signal i(int), w(int); route e env -> p with i, w; process p 1..1; var n: int; var a: int[2]; var b: int[1]; var c: int; start; c := 7; b[0] := 6; a[1] := 5; next z; "
            + "state z; input i(n); c := a[n]; next -; input w(n); a[n] := 9; next -; none; c := b[0]; next -; end;";
        for (int signal = 0; signal < 2; signal++) {
            for (int n : new int[] {Integer.MIN_VALUE, -1, 0, 1, 2, 3, Integer.MAX_VALUE}) {
                Desk desk = Desk.started(text, 1);
                ExchangeHouse x = desk.house;
                x.go(1);
                x.put(signal, 1, n, 0, 0);
                Desk.due("a step", x.go(1), 1);
                boolean good = n == 0 || n == 1;
                Desk.due("index " + n, x.count(9), good ? 0 : 1);
                Desk.due("its place", x.count(10), good ? 0 : text.indexOf(signal == 0 ? "c := a[n]" : "a[n] := 9"));
                Desk.due("alive", x.count(5), good ? 1 : 0);
                if (good) {
                    Desk.due("read", x.cell(1, 4), signal == 1 ? 7 : n == 0 ? 0 : 5);
                    Desk.due("written", x.cell(1, 1 + n), signal == 1 ? 9 : n == 0 ? 0 : 5);
                    Desk.due("the other array", x.cell(1, 3), 6);
                }
            }
        }
    }

    private static void divisors() {
        String text = "signal d(int), r(int); route e env -> p with d, r; process p 1..1; var n: int; start; next z; state z; input d(n); n := 7 / n; next -; input r(n); n := 7 % n; next -; end;";
        for (int n : VALUES) {
            for (int signal = 0; signal < 2; signal++) {
                Desk desk = Desk.started(text, 1);
                ExchangeHouse x = desk.house;
                x.go(1);
                x.put(signal, 1, n, 0, 0);
                x.go(1);
                Desk.due("divided by " + n, x.count(9), n == 0 ? 2 : 0);
                Desk.due("what it is", x.cell(1, 0), n == 0 ? 0 : signal == 0 ? 7 / n : 7 % n);
            }
        }
    }

    private static void receivers() {
        String text = "signal g(pid), s; route e env -> p with g; route r p -> k with s; process p 1..1; var q: pid; start; next a; state a; input g(q); output s to q; next -; none; create k; next -; end; "
            + "process k 1..3; start; next a; state a; save s; none; stop; end;";
        for (int to : new int[] {Integer.MIN_VALUE, -1, 0, 3, 4, 12, 100, Integer.MAX_VALUE}) {
            Desk desk = Desk.started(text, 1);
            ExchangeHouse x = desk.house;
            x.run(2);
            x.none(1, 0);
            x.go(3);
            x.none(3, 0);
            int events = x.count(13);
            x.put(0, 1, to, 0, 0);
            x.go(1);
            desk.events("to " + to + ", who is not there, or not any more", events, "2 1 0 0", "1 1 1 " + to, "3 " + to + " 1 1", "5 1 -1 0");
            Desk.due("no error", x.count(8), 0);
            x.none(1, 0);
            Desk.due("one that is made later does not get it", x.instance(4, 2), 0);
        }
    }

    private static void turns() {
        String text = "process p 4..4; var n: int; start; next a; state a; when n < 2; n := n + 1; next -; none; stop; none; n := 9; next -; end;";
        Desk desk = Desk.started(text, 1);
        ExchangeHouse x = desk.house;
        Desk.due("all begin", x.run(4), 4);
        x.go(2);
        x.none(2, 0);
        Desk.due("a step", x.run(1), 1);
        Desk.due("the one behind one that is not there any more", x.cell(3, 0), 1);
        x.run(1);
        Desk.due("then the last one", x.cell(4, 0), 1);
        x.run(1);
        Desk.due("then around", x.cell(1, 0), 1);
        x.none(3, 1);
        x.none(4, 1);
        x.run(1);
        Desk.due("the one that went last, if no other is ready", x.cell(1, 0), 2);
        Desk.due("none is ready", x.run(1), 0);
    }

    private static void draws() {
        String text = "signal s; route a p -> env delay 0 .. 200 with s; route b p -> env delay 199 .. 200 with s; route c p -> env delay 7 .. 7 with s; "
            + "process p 1..1; start; next z; state z; none; output s via a; next -; none; output s via b; next -; none; output s via c; next -; end;";
        for (int first : new int[] {Integer.MIN_VALUE, -1, 0, 1, 77, Integer.MAX_VALUE}) {
            Desk desk = Desk.started(text, first);
            ExchangeHouse x = desk.house;
            x.run(1);
            int seed = first;
            Desk.due("the seed", x.count(15), seed);
            int[] low = {0, 199, 7};
            int[] many = {201, 2, 1};
            for (int k = 0; k < 3; k++) {
                x.none(1, k);
                seed = seed * 1103515245 + 12345;
                Desk.due("the seed", x.count(15), seed);
                int draw = (int) ((seed & 0xFFFFFFFFL) / 65536 % many[k]);
                if (low[k] + draw > 0) {
                    Desk.due("seed " + first + ", route " + k, x.way(k, 0, 3), low[k] + draw);
                }
            }
        }
    }

    private static void trace() {
        // Made, begun, then one event for each none.
        for (int events : new int[] {499, 500, 501}) {
            Desk desk = Desk.started("process p 1..1; var n: int; start; next a; state a; when n < 999; n := n + 1; next -; end;", 1);
            ExchangeHouse x = desk.house;
            Desk.due("steps", x.run(events - 1), events - 1);
            Desk.due("events of " + events, x.count(13), Math.min(500, events));
            Desk.due("the eldest", x.event(0, 0), events > 500 ? 5 : 0);
            Desk.due("the last one", x.event(Math.min(500, events) - 1, 0), 5);
            Desk.due("no other", x.event(Math.min(500, events), 0), -1);
        }
    }

    private static void outs() {
        for (int outs : new int[] {199, 200, 201, 402}) {
            Desk desk = Desk.started("signal s(int); route o p -> env with s; process p 1..1; var n: int; start; next a; state a; when n < 999; n := n + 1; output s(n); next -; end;", 1);
            ExchangeHouse x = desk.house;
            Desk.due("steps", x.run(outs + 1), outs + 1);
            Desk.due("outs", x.count(12), outs);
            Desk.due("the first of the latest 200", x.out(0, 3), Math.max(1, outs - 199));
            Desk.due("the last one", x.out(Math.min(outs, 200) - 1, 3), outs);
            Desk.due("no other", x.out(Math.min(outs, 200), 3), -1);
        }
    }

    private static void ranges() {
        Desk desk = Desk.started("signal i(int); route e env -> p with i; process p 1..1; var n: int; var r: int; start; next a; state a; input i(n); r := 0; "
            + "decide n; 3 .. 5: r := 1; -5 .. -3, 7: r := 2; 0: r := 3; -999999999 .. -999999998: r := 4; 999999999: r := 5; else: r := 6; end; next -; end;", 1);
        ExchangeHouse x = desk.house;
        x.go(1);
        int[] values = {2, 3, 4, 5, 6, 7, 8, -6, -5, -3, -2, -1, 0, 1, -999999999, -999999998, -999999997, 999999999, 999999998, Integer.MIN_VALUE, Integer.MAX_VALUE};
        int[] want = {6, 1, 1, 1, 6, 2, 6, 6, 2, 2, 6, 6, 3, 6, 4, 4, 6, 5, 6, 6, 6};
        for (int k = 0; k < values.length; k++) {
            x.put(0, 1, values[k], 0, 0);
            x.go(1);
            Desk.due("decide " + values[k], x.cell(1, 1), want[k]);
        }
    }

    private static void prios() {
        String[] whens = {"when b prio 9; n := %; next -; ", "when b prio 0; n := %; next -; ", "when b; n := %; next -; ", "when b prio 8; n := %; next -; ", "when not b; n := %; next -; ", "when n / 0 = 0; n := %; next -; "};
        int[][] orders = {{0, 3}, {3, 0}, {0, 1, 2}, {0, 2, 1}, {4, 0}, {5, 0, 3}, {4, 5, 3, 1, 2}};
        int[] want = {3, 3, 1, 2, 0, 3, 1};
        for (int k = 0; k < orders.length; k++) {
            StringBuilder text = new StringBuilder("process p 1..1; var n: int; var b: bool; start; b := true; next a; state a; ");
            for (int when : orders[k]) {
                text.append(whens[when].replace("%", Integer.toString(when)));
            }
            Desk desk = Desk.started(text + "end;", 1);
            desk.house.go(1);
            Desk.due("a when", desk.house.instance(1, 6), 4);
            Desk.due("a step", desk.house.go(1), 1);
            Desk.due("the least prio, of several the first, of row " + k, desk.house.cell(1, 0), want[k]);
        }
        Desk none = Desk.started("process p 1..1; var n: int; start; next a; state a; when n / 0 = 0; stop; when n = 1; stop; end;", 1);
        Desk.due("neither is true", none.house.run(9), 1);
        Desk.due("no error", none.house.count(8), 0);
    }

    private static void due() {
        Desk desk = Desk.started("signal s; route e env -> p delay 5 with s; process p 1..1; timer t; start; set t 5; next a; state a; save *; end;", 1);
        ExchangeHouse x = desk.house;
        x.go(1);
        x.put(0, 1, 0, 0, 0);
        x.wait(4);
        x.go(1);
        Desk.due("a moment ahead nothing comes", x.instance(1, 2), 0);
        x.wait(1);
        Desk.due("by wait nothing comes", x.instance(1, 2), 0);
        Desk.due("it is still on the way", x.way(0, 0, 3), 5);
        Desk.due("it is still set", x.timer(1, 0), 5);
        Desk.due("none", x.none(1, 0), 0);
        Desk.due("then both came", x.instance(1, 2), 2);
        Desk now = Desk.started("process p 1..1; timer t; start; set t 0; next a; state a; input t; next b; state b; end;", 1);
        Desk.due("start", now.house.run(1), 1);
        Desk.due("set to now", now.house.timer(1, 0), 0);
        Desk.due("behind the last step nothing comes", now.house.instance(1, 2), 0);
        Desk.due("it comes by the next call", now.house.run(9), 1);
        Desk.due("no time went by", now.house.count(4), 0);
    }

    private static void stopping() {
        Desk desk = Desk.started("signal s, u; route e env -> p with s, u; process p 1..1; timer t; timer v; start; set t 1; set v 50; next a; state a; save *; none; stop; end;", 1);
        ExchangeHouse x = desk.house;
        x.run(1);
        for (int i = 0; i < 5; i++) {
            x.put(i % 2, 1, 0, 0, 0);
        }
        x.wait(1);
        x.go(1);
        int events = x.count(13);
        Desk.due("none", x.none(1, 0), 1);
        desk.events("stopped with a full queue", events, "6 1 -1 0", "3 1 0 0", "3 1 1 0", "3 1 0 0", "3 1 1 0", "3 1 0 0", "3 1 100 1");
        Desk.due("lost", x.count(7), 6);
        Desk.due("not set any more", x.timer(1, 1), -1);
        Desk.due("it rests", x.run(1), 0);
        Desk.due("no time went by", x.count(4), 1);
    }

    private static void seeds() {
        Desk desk = Desk.started("process p 2..2; start; stop; end;", 5);
        for (int seed : VALUES) {
            Desk.due("begin", desk.house.begin(seed), 2);
            Desk.due("the seed", desk.house.count(15), seed);
            Desk.due("steps", desk.house.run(1000), 2);
        }
    }
}
