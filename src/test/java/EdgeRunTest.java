/** The boundaries of RUNS and of THE TRACE: 12 alive, queues and rows of 6, the 201st act, the latest time, 32 bits. */
public final class EdgeRunTest {
    private static final int LATEST = 2000000000;
    private static final int[] VALUES = {Integer.MIN_VALUE, Integer.MIN_VALUE + 1, -46341, -2, -1, 0, 1, 2, 46341, 65536, Integer.MAX_VALUE - 1, Integer.MAX_VALUE};

    public static void main(String[] args) {
        twelveAtFirst();
        twelveByCreate();
        secondCount();
        queueByOutput();
        queueByRoute();
        queueByTimer();
        rowOfSix();
        rowToEnv();
        acts();
        latestTime();
        timesThatWouldBeLater();
        wholesGoRound();
        indexes();
        divisors();
        receivers();
        turns();
        draws();
        trace();
        outs();
        ranges();
        prios();
        due();
        stopping();
        seeds();
        relations();
        timersReset();
        timersActive();
        timersWithoutValues();
        oneStopsAmongAll();
        nobodyOfAType();
        lastOfTwelve();
        tenRoutes();
        sixteenCells();
        rowsOfOtherTypes();
        atFirst();
        whichRoute();
        whichError();
        whatWasDoneStays();
        earliestFirst();
        atOnceOrNot();
        droppedValues();
        Desk.close("EdgeRunTest");
    }

    private static void twelveAtFirst() {
        String rest = "; start; next z; state z; end; ";
        Desk desk = Desk.started("process a 5..5" + rest + "process b 8..8" + rest + "process c 1..1" + rest, 1);
        ExchangeHouse x = desk.house;
        Desk.due("alive", x.count(5), 12);
        Desk.due("made", x.count(6), 12);
        Desk.due("events", x.count(13), 12);
        Desk.same("types", Desk.row(1, 13, pid -> x.instance(pid, 0)), "0 0 0 0 0 1 1 1 1 1 1 1 -1");
        Desk.same("pids", Desk.row(-1, 12, x::alive), "-1 1 2 3 4 5 6 7 8 9 10 11 12 -1");
        Desk.due("each does its start", x.run(1000), 12);
        Desk twelve = new Desk();
        twelve.load("process a 12..12" + rest);
        Desk.due("just twelve", twelve.house.begin(0), 12);
        twelve.load("process a 11..12" + rest + "process b 1..1" + rest);
        Desk.due("just twelve", twelve.house.begin(0), 12);
        Desk.due("the last one is of the second type", twelve.house.instance(12, 0), 1);
        twelve.load("process a 13..13" + rest);
        Desk.due("one too many", twelve.house.begin(0), 12);
        twelve.load("process a 0..12; start; create a; stop; end;");
        Desk.due("nobody", twelve.house.begin(0), 0);
        Desk.due("nobody", twelve.house.alive(0), -1);
        Desk.due("it rests", twelve.house.run(1), 0);
        Desk.due("no event", twelve.house.count(13), 0);
    }

    private static void twelveByCreate() {
        Desk desk = Desk.started("process m 1..1; var n: int; start; next a; state a; none; create k(n); n := n + 1; next -; end; "
            + "process k 0..200 (i: int); start; stop; end;", 1);
        ExchangeHouse x = desk.house;
        x.run(1);
        for (int i = 0; i < 11; i++) {
            x.none(1, 0);
            Desk.due("offspring " + i, x.instance(1, 5), i + 2);
            Desk.due("its parameter", x.cell(i + 2, 0), i);
        }
        int events = x.count(13);
        Desk.due("twelve are alive", x.count(5), 12);
        x.none(1, 0);
        Desk.due("the thirteenth is not made", x.count(5), 12);
        Desk.due("made", x.count(6), 12);
        Desk.due("offspring is null", x.instance(1, 5), 0);
        Desk.due("what is behind is done", x.cell(1, 0), 12);
        desk.events("nothing else", events, "5 1 -1 0");
        Desk.due("one stops", x.go(5), 1);
        x.none(1, 0);
        Desk.due("numbers go on", x.instance(1, 5), 13);
        Desk.due("the number of one that stopped is not used again", x.instance(5, 0), -1);
        Desk.due("the last one by pids", x.alive(11), 13);
        Desk.due("its parameter", x.cell(13, 0), 12);
        x.none(1, 0);
        Desk.due("again there are twelve", x.instance(1, 5), 0);
    }

    private static void secondCount() {
        Desk full = Desk.started("process m 1..1; start; create k; next a; state a; end; process k 2..2; start; stop; end;", 1);
        Desk.due("start", full.house.go(1), 1);
        Desk.due("as many as the second count from the first", full.house.instance(1, 5), 0);
        Desk.due("alive", full.house.count(5), 3);
        Desk.due("one stops", full.house.go(3), 1);
        Desk none = Desk.started("process m 1..1; start; create k; next a; state a; end; process k 0..0; start; stop; end;", 1);
        none.house.run(9);
        Desk.due("a second count of 0", none.house.count(6), 1);
        Desk own = Desk.started("process p 1..2; start; create p; next a; state a; none; create p; next -; none; stop; end;", 1);
        Desk.due("each does its start", own.house.run(9), 2);
        Desk.due("the first made the second", own.house.instance(1, 5), 2);
        Desk.due("the second made none", own.house.instance(2, 5), 0);
        own.house.none(1, 1);
        own.house.none(2, 0);
        Desk.due("one that makes another of its own type", own.house.instance(2, 5), 3);
        own.house.none(2, 0);
        Desk.due("offspring is null again", own.house.instance(2, 5), 0);
    }

    private static void queueByOutput() {
        Desk desk = Desk.started("signal s(int); route r p -> q with s; process p 1..1; var n: int; start; next a; state a; none; n := n + 1; output s(n); next -; end; "
            + "process q 1..1; var k: int; var w: int; start; next a; state a; save s; none; next b; state b; input s(k); w := waiting; next a; end;", 1);
        ExchangeHouse x = desk.house;
        x.run(2);
        for (int i = 1; i <= 6; i++) {
            x.none(1, 0);
            Desk.due("in the queue", x.instance(2, 2), i);
        }
        Desk.due("nothing lost", x.count(7), 0);
        int events = x.count(13);
        x.none(1, 0);
        desk.events("the seventh is lost", events, "1 1 0 2", "3 2 0 1", "5 1 -1 0");
        Desk.due("lost", x.count(7), 1);
        Desk.same("what is there", Desk.row(0, 6, i -> x.queued(2, i, 2)), "1 2 3 4 5 6 -1");
        x.none(2, 0);
        x.go(2);
        Desk.due("the first one is taken", x.cell(2, 0), 1);
        Desk.due("five are waiting then", x.cell(2, 1), 5);
        x.none(1, 0);
        Desk.due("there is room again", x.queued(2, 5, 2), 8);
        Desk.due("lost", x.count(7), 1);
    }

    private static void queueByRoute() {
        Desk desk = Desk.started("signal s(int), u; route d env -> p delay 2 with s; route e env -> p with u; process p 1..1; start; next a; state a; save *; none; stop; end;", 1);
        ExchangeHouse x = desk.house;
        x.run(1);
        Desk.due("put", x.put(0, 1, 5, 0, 0), 1);
        Desk.due("put", x.put(0, 1, 6, 0, 0), 1);
        for (int i = 0; i < 5; i++) {
            Desk.due("put", x.put(1, 1, 0, 0, 0), 1);
        }
        x.wait(2);
        int events = x.count(13);
        x.go(1);
        Desk.due("the sixth arrived", x.queued(1, 5, 2), 5);
        Desk.due("the seventh did not", x.instance(1, 2), 6);
        desk.events("it is lost", events, "3 1 0 0");
        Desk.due("nothing is on the way", x.way(0, 0, 0), -1);
        Desk.due("put is done, and lost", x.put(1, 1, 0, 0, 0), 1);
        desk.events("it is lost", events + 1, "3 1 1 0");
        x.put(0, 1, 9, 0, 0);
        x.none(1, 0);
        Desk.due("stopped", x.count(5), 0);
        events = x.count(13);
        x.wait(2);
        x.go(1);
        desk.events("one that is not alive any more", events, "3 1 0 0");
        Desk.due("lost: two, six of the queue, one", x.count(7), 9);
        Desk.due("nobody is there to put to", x.put(1, 1, 0, 0, 0), 0);
    }

    private static void queueByTimer() {
        Desk desk = Desk.started("signal s; route e env -> p with s; process p 1..1; timer t; timer u; start; set t 3; set u 3; next a; state a; save *; end;", 1);
        ExchangeHouse x = desk.house;
        x.run(1);
        for (int i = 0; i < 5; i++) {
            x.put(0, 1, 0, 0, 0);
        }
        int events = x.count(13);
        Desk.due("no step", x.run(5), 0);
        desk.events("one has room, one has not", events, "8 1 100 1", "8 1 101 1", "3 1 101 1");
        Desk.due("the last of the queue", x.queued(1, 5, 0), 100);
        Desk.due("not set any more", x.timer(1, 0), -1);
        Desk.due("not set any more", x.timer(1, 1), -1);
        Desk.due("lost", x.count(7), 1);
    }

    private static void rowOfSix() {
        Desk desk = Desk.started("signal s(int); route r p -> q delay 3 .. 9 with s; process p 1..1; var n: int; start; next a; state a; none; n := n + 1; output s(n); next -; end; "
            + "process q 1..1; start; next a; state a; input s; next -; end;", 99);
        ExchangeHouse x = desk.house;
        x.run(2);
        for (int i = 0; i < 6; i++) {
            x.none(1, 0);
            Desk.due("on the way", x.way(0, i, 4), i + 1);
        }
        int seed = x.count(15);
        int events = x.count(13);
        x.none(1, 0);
        Desk.due("no draw for the seventh", x.count(15), seed);
        Desk.due("six", x.way(0, 6, 0), -1);
        desk.events("it is lost", events, "1 1 0 2", "3 2 0 1", "5 1 -1 0");
        Desk.due("lost", x.count(7), 1);
        x.run(1);
        x.none(1, 0);
        Desk.due("there is room again, and a draw", x.count(15) != seed, true);
        Desk.due("nothing more is lost", x.count(7), 1);
    }

    private static void rowToEnv() {
        Desk desk = Desk.started("signal s; route o p -> env delay 0 with s; route e env -> p delay 1 with s; process p 1..1; start; next a; state a; none; output s; next -; end;", 1);
        ExchangeHouse x = desk.house;
        x.run(1);
        for (int i = 0; i < 6; i++) {
            // none() lets what is due come first, so the row is filled by one trans at a time.
            x.none(1, 0);
        }
        Desk.due("each came out by the next call", x.count(12), 5);
        Desk six = Desk.started("signal s; route o p -> env delay 5 with s; process p 1..1; start; output s; output s; output s; output s; output s; output s; output s; next a; state a; end;", 1);
        six.house.run(1);
        Desk.due("six", six.house.way(0, 5, 2), 0);
        Desk.due("lost", six.house.count(7), 1);
        six.events("the seventh was sent, and lost, to env", 7, "1 1 0 0", "3 0 0 1", "5 1 -1 0");
    }

    /** 197 acts, decides and lasts, then some more, in each kind of trans. */
    private static void acts() {
        String loop = "l: n := n + 1; decide n; 1 .. 65: join l; end; ";
        String[] places = {"start; % next a; state a; ", "start; next a; state a; input s; % next -; ", "start; next a; state a; when n = 0; % next -; ", "start; next a; state a; none; % next -; "};
        for (int kind = 0; kind < places.length; kind++) {
            for (int more = 1; more <= 4; more++) {
                String text = "signal s; route e env -> p with s; process p 1..1; var n: int; var k: int; " + places[kind].replace("%", loop + Desk.repeat("k := %; ", more)) + "end;";
                Desk desk = Desk.started(text, 1);
                ExchangeHouse x = desk.house;
                Desk.due("start", x.go(1), 1);
                if (kind == 1) {
                    x.put(0, 1, 0, 0, 0);
                }
                Desk.due("done", kind == 0 ? 1 : kind == 3 ? x.none(1, 0) : x.go(1), 1);
                Desk.due("197 and " + more + " and a last", x.count(9), more > 2 ? 4 : 0);
                Desk.due("errors", x.count(8), more > 2 ? 1 : 0);
                String at = more == 3 ? "next " + (kind == 0 ? "a" : "-") : "k := 3";
                Desk.due("its place", x.count(10), more > 2 ? text.lastIndexOf(at) : 0);
                Desk.due("alive", x.count(5), more > 2 ? 0 : 1);
            }
        }
        // A stop, or a join, as the 200th and as the 201st.
        for (int more = 2; more <= 3; more++) {
            String text = "process p 1..1; var n: int; var k: int; start; " + loop + Desk.repeat("k := %; ", more);
            Desk stop = Desk.started(text + "stop; end;", 1);
            stop.house.run(1);
            Desk.due("a stop is a last", stop.house.count(8), more - 2);
            Desk join = Desk.started(text + "join e; state a; none; e: stop; end;", 1);
            join.house.run(1);
            Desk.due("a join is a last, and then comes another", join.house.count(10), more == 2 ? (text + "join e; state a; none; e: ").length() : text.length());
        }
    }

    private static void latestTime() {
        Desk desk = Desk.started("signal s; route r env -> p delay 200 with s; route q env -> p delay 1 .. 9 with u; signal u; process p 1..1; timer t; timer v; start; set t 999999999 * 2 + 1; next a; "
            + "state a; input t; next b; state b; save s, u, v; none; set t 1; next -; none; set t 2; set v 999999999 * 2; next -; none; set t 0 - 1; next -; end;", 1);
        ExchangeHouse x = desk.house;
        x.go(1);
        Desk.due("one short of the latest", x.timer(1, 0), LATEST - 1);
        Desk.due("run", x.run(5), 1);
        Desk.due("now", x.count(4), LATEST - 1);
        x.none(1, 0);
        Desk.due("just the latest", x.timer(1, 0), LATEST);
        x.none(1, 1);
        Desk.due("what would be later is then", x.timer(1, 0), LATEST);
        Desk.due("what would be later is then", x.timer(1, 1), LATEST);
        x.put(0, 1, 0, 0, 0);
        Desk.due("what would arrive later does then", x.way(0, 0, 3), LATEST);
        Desk.due("wait", x.wait(0), LATEST - 1);
        Desk.due("wait", x.wait(1), LATEST);
        Desk.due("wait", x.wait(1), LATEST);
        Desk.due("wait", x.wait(1000000), LATEST);
        x.put(1, 1, 0, 0, 0);
        Desk.due("so it is with a draw", x.way(1, 0, 3), LATEST);
        Desk.due("all comes then, and a timer is lost, which nothing tells", x.run(9), 1);
        Desk.due("now", x.count(4), LATEST);
        Desk.same("the queue", Desk.row(0, 3, i -> x.queued(1, i, 0)), "0 1 101 -1");
        x.none(1, 2);
        Desk.due("below 0 is now", x.timer(1, 0), LATEST);
    }

    private static void timesThatWouldBeLater() {
        Desk desk = Desk.started("signal i(int); route e env -> p with i; process p 1..1; var n: int; timer t; start; next a; state a; input i(n); set t n; next -; input t; next -; end;", 1);
        ExchangeHouse x = desk.house;
        x.go(1);
        x.wait(1000000);
        int[] by = {0, 1, -1, LATEST - 1000001, LATEST - 1000000, LATEST - 999999, Integer.MAX_VALUE, Integer.MIN_VALUE};
        int[] want = {1000000, 1000001, 1000000, LATEST - 1, LATEST, LATEST, LATEST, 1000000};
        for (int k = 0; k < by.length; k++) {
            x.put(0, 1, by[k], 0, 0);
            x.go(1);
            Desk.due("set by " + by[k], x.timer(1, 0), want[k]);
            // One that is due already is taken, so that the queue is empty again.
            x.go(1);
        }
    }

    private static void wholesGoRound() {
        String acts = "none; r := n + 1; next -; none; r := n - 1; next -; none; r := - n; next -; none; r := n * n; next -; none; r := n * 3; next -; "
            + "none; r := n / - 1; next -; none; r := n % - 1; next -; none; r := n / 2; next -; none; r := n % 7; next -; none; r := 5 - n; next -; ";
        Desk desk = Desk.started("signal i(int); route e env -> p with i; process p 1..1; var n: int; var r: int; start; next a; state a; input i(n); next -; " + acts + "end;", 1);
        ExchangeHouse x = desk.house;
        x.go(1);
        for (int n : VALUES) {
            x.put(0, 1, n, 0, 0);
            x.go(1);
            int[] want = {n + 1, n - 1, -n, n * n, n * 3, -n, 0, n / 2, n % 7, 5 - n};
            for (int k = 0; k < want.length; k++) {
                x.none(1, k);
                Desk.due("act " + k + " of " + n, x.cell(1, 1), want[k]);
            }
        }
        Desk.due("no error", x.count(8), 0);
        Desk less = Desk.started("signal i(int); route e env -> p with i; process p 1..1; var n: int; var b: bool[4]; start; next a; state a; input i(n); b[0] := n < 0; b[1] := n > 0; b[2] := n <= - 1; b[3] := n >= 999999999 + 999999999 + 147483649; next -; end;", 1);
        less.house.go(1);
        for (int n : VALUES) {
            less.house.put(0, 1, n, 0, 0);
            less.house.go(1);
            String want = (n < 0 ? "1 " : "0 ") + (n > 0 ? "1 " : "0 ") + (n <= -1 ? "1 " : "0 ") + (n == Integer.MAX_VALUE ? "1" : "0");
            Desk.same("relations of " + n, Desk.row(1, 4, k -> less.house.cell(1, k)), want);
        }
    }

    private static void indexes() {
        String text = "signal i(int), w(int); route e env -> p with i, w; process p 1..1; var n: int; var a: int[2]; var b: int[1]; var c: int; start; c := 7; b[0] := 6; a[1] := 5; next z; "
            + "state z; input i(n); c := a[n]; next -; input w(n); a[n] := 9; next -; none; c := b[0]; next -; end;";
        for (int signal = 0; signal < 2; signal++) {
            for (int n : new int[] {Integer.MIN_VALUE, -1, 0, 1, 2, 3, Integer.MAX_VALUE}) {
                Desk desk = Desk.started(text, 1);
                ExchangeHouse x = desk.house;
                x.go(1);
                x.put(signal, 1, n, 0, 0);
                Desk.due("a step", x.go(1), 1);
                boolean good = n == 0 || n == 1;
                Desk.due("index " + n, x.count(9), good ? 0 : 1);
                Desk.due("its place", x.count(10), good ? 0 : text.indexOf(signal == 0 ? "c := a[n]" : "a[n] := 9"));
                Desk.due("alive", x.count(5), good ? 1 : 0);
                if (good) {
                    Desk.due("read", x.cell(1, 4), signal == 1 ? 7 : n == 0 ? 0 : 5);
                    Desk.due("written", x.cell(1, 1 + n), signal == 1 ? 9 : n == 0 ? 0 : 5);
                    Desk.due("the other array", x.cell(1, 3), 6);
                }
            }
        }
    }

    private static void divisors() {
        String text = "signal d(int), r(int); route e env -> p with d, r; process p 1..1; var n: int; start; next z; state z; input d(n); n := 7 / n; next -; input r(n); n := 7 % n; next -; end;";
        for (int n : VALUES) {
            for (int signal = 0; signal < 2; signal++) {
                Desk desk = Desk.started(text, 1);
                ExchangeHouse x = desk.house;
                x.go(1);
                x.put(signal, 1, n, 0, 0);
                x.go(1);
                Desk.due("divided by " + n, x.count(9), n == 0 ? 2 : 0);
                Desk.due("what it is", x.cell(1, 0), n == 0 ? 0 : signal == 0 ? 7 / n : 7 % n);
            }
        }
    }

    private static void receivers() {
        String text = "signal g(pid), s; route e env -> p with g; route r p -> k with s; process p 1..1; var q: pid; start; next a; state a; input g(q); output s to q; next -; none; create k; next -; end; "
            + "process k 1..3; start; next a; state a; save s; none; stop; end;";
        for (int to : new int[] {Integer.MIN_VALUE, -1, 0, 3, 4, 12, 100, Integer.MAX_VALUE}) {
            Desk desk = Desk.started(text, 1);
            ExchangeHouse x = desk.house;
            x.run(2);
            x.none(1, 0);
            x.go(3);
            x.none(3, 0);
            int events = x.count(13);
            x.put(0, 1, to, 0, 0);
            x.go(1);
            desk.events("to " + to + ", who is not there, or not any more", events, "2 1 0 0", "1 1 1 " + to, "3 " + to + " 1 1", "5 1 -1 0");
            Desk.due("no error", x.count(8), 0);
            x.none(1, 0);
            Desk.due("one that is made later does not get it", x.instance(4, 2), 0);
        }
    }

    private static void turns() {
        String text = "process p 4..4; var n: int; start; next a; state a; when n < 2; n := n + 1; next -; none; stop; none; n := 9; next -; end;";
        Desk desk = Desk.started(text, 1);
        ExchangeHouse x = desk.house;
        Desk.due("all begin", x.run(4), 4);
        x.go(2);
        x.none(2, 0);
        Desk.due("a step", x.run(1), 1);
        Desk.due("the one behind one that is not there any more", x.cell(3, 0), 1);
        x.run(1);
        Desk.due("then the last one", x.cell(4, 0), 1);
        x.run(1);
        Desk.due("then around", x.cell(1, 0), 1);
        x.none(3, 1);
        x.none(4, 1);
        x.run(1);
        Desk.due("the one that went last, if no other is ready", x.cell(1, 0), 2);
        Desk.due("none is ready", x.run(1), 0);
    }

    private static void draws() {
        String text = "signal s; route a p -> env delay 0 .. 200 with s; route b p -> env delay 199 .. 200 with s; route c p -> env delay 7 .. 7 with s; "
            + "process p 1..1; start; next z; state z; none; output s via a; next -; none; output s via b; next -; none; output s via c; next -; end;";
        for (int first : new int[] {Integer.MIN_VALUE, -1, 0, 1, 77, Integer.MAX_VALUE}) {
            Desk desk = Desk.started(text, first);
            ExchangeHouse x = desk.house;
            x.run(1);
            int seed = first;
            Desk.due("the seed", x.count(15), seed);
            int[] low = {0, 199, 7};
            int[] many = {201, 2, 1};
            for (int k = 0; k < 3; k++) {
                x.none(1, k);
                seed = seed * 1103515245 + 12345;
                Desk.due("the seed", x.count(15), seed);
                int draw = (int) ((seed & 0xFFFFFFFFL) / 65536 % many[k]);
                if (low[k] + draw > 0) {
                    Desk.due("seed " + first + ", route " + k, x.way(k, 0, 3), low[k] + draw);
                }
            }
        }
    }

    private static void trace() {
        // Made, begun, then one event for each none.
        for (int events : new int[] {499, 500, 501}) {
            Desk desk = Desk.started("process p 1..1; var n: int; start; next a; state a; when n < 999; n := n + 1; next -; end;", 1);
            ExchangeHouse x = desk.house;
            Desk.due("steps", x.run(events - 1), events - 1);
            Desk.due("events of " + events, x.count(13), Math.min(500, events));
            Desk.due("the eldest", x.event(0, 0), events > 500 ? 5 : 0);
            Desk.due("the last one", x.event(Math.min(500, events) - 1, 0), 5);
            Desk.due("no other", x.event(Math.min(500, events), 0), -1);
        }
    }

    private static void outs() {
        for (int outs : new int[] {199, 200, 201, 402}) {
            Desk desk = Desk.started("signal s(int); route o p -> env with s; process p 1..1; var n: int; start; next a; state a; when n < 999; n := n + 1; output s(n); next -; end;", 1);
            ExchangeHouse x = desk.house;
            Desk.due("steps", x.run(outs + 1), outs + 1);
            Desk.due("outs", x.count(12), outs);
            Desk.due("the first of the latest 200", x.out(0, 3), Math.max(1, outs - 199));
            Desk.due("the last one", x.out(Math.min(outs, 200) - 1, 3), outs);
            Desk.due("no other", x.out(Math.min(outs, 200), 3), -1);
        }
    }

    private static void ranges() {
        Desk desk = Desk.started("signal i(int); route e env -> p with i; process p 1..1; var n: int; var r: int; start; next a; state a; input i(n); r := 0; "
            + "decide n; 3 .. 5: r := 1; -5 .. -3, 7: r := 2; 0: r := 3; -999999999 .. -999999998: r := 4; 999999999: r := 5; else: r := 6; end; next -; end;", 1);
        ExchangeHouse x = desk.house;
        x.go(1);
        int[] values = {2, 3, 4, 5, 6, 7, 8, -6, -5, -3, -2, -1, 0, 1, -999999999, -999999998, -999999997, 999999999, 999999998, Integer.MIN_VALUE, Integer.MAX_VALUE};
        int[] want = {6, 1, 1, 1, 6, 2, 6, 6, 2, 2, 6, 6, 3, 6, 4, 4, 6, 5, 6, 6, 6};
        for (int k = 0; k < values.length; k++) {
            x.put(0, 1, values[k], 0, 0);
            x.go(1);
            Desk.due("decide " + values[k], x.cell(1, 1), want[k]);
        }
    }

    private static void prios() {
        String[] whens = {"when b prio 9; n := %; next -; ", "when b prio 0; n := %; next -; ", "when b; n := %; next -; ", "when b prio 8; n := %; next -; ", "when not b; n := %; next -; ", "when n / 0 = 0; n := %; next -; "};
        int[][] orders = {{0, 3}, {3, 0}, {0, 1, 2}, {0, 2, 1}, {4, 0}, {5, 0, 3}, {4, 5, 3, 1, 2}};
        int[] want = {3, 3, 1, 2, 0, 3, 1};
        for (int k = 0; k < orders.length; k++) {
            StringBuilder text = new StringBuilder("process p 1..1; var n: int; var b: bool; start; b := true; next a; state a; ");
            for (int when : orders[k]) {
                text.append(whens[when].replace("%", Integer.toString(when)));
            }
            Desk desk = Desk.started(text + "end;", 1);
            desk.house.go(1);
            Desk.due("a when", desk.house.instance(1, 6), 4);
            Desk.due("a step", desk.house.go(1), 1);
            Desk.due("the least prio, of several the first, of row " + k, desk.house.cell(1, 0), want[k]);
        }
        Desk none = Desk.started("process p 1..1; var n: int; start; next a; state a; when n / 0 = 0; stop; when n = 1; stop; end;", 1);
        Desk.due("neither is true", none.house.run(9), 1);
        Desk.due("no error", none.house.count(8), 0);
    }

    private static void due() {
        Desk desk = Desk.started("signal s; route e env -> p delay 5 with s; process p 1..1; timer t; start; set t 5; next a; state a; save *; end;", 1);
        ExchangeHouse x = desk.house;
        x.go(1);
        x.put(0, 1, 0, 0, 0);
        x.wait(4);
        x.go(1);
        Desk.due("a moment ahead nothing comes", x.instance(1, 2), 0);
        x.wait(1);
        Desk.due("by wait nothing comes", x.instance(1, 2), 0);
        Desk.due("it is still on the way", x.way(0, 0, 3), 5);
        Desk.due("it is still set", x.timer(1, 0), 5);
        Desk.due("none", x.none(1, 0), 0);
        Desk.due("then both came", x.instance(1, 2), 2);
        Desk now = Desk.started("process p 1..1; timer t; start; set t 0; next a; state a; input t; next b; state b; end;", 1);
        Desk.due("start", now.house.run(1), 1);
        Desk.due("set to now", now.house.timer(1, 0), 0);
        Desk.due("behind the last step nothing comes", now.house.instance(1, 2), 0);
        Desk.due("it comes by the next call", now.house.run(9), 1);
        Desk.due("no time went by", now.house.count(4), 0);
    }

    private static void stopping() {
        Desk desk = Desk.started("signal s, u; route e env -> p with s, u; process p 1..1; timer t; timer v; start; set t 1; set v 50; next a; state a; save *; none; stop; end;", 1);
        ExchangeHouse x = desk.house;
        x.run(1);
        for (int i = 0; i < 5; i++) {
            x.put(i % 2, 1, 0, 0, 0);
        }
        x.wait(1);
        x.go(1);
        int events = x.count(13);
        Desk.due("none", x.none(1, 0), 1);
        desk.events("stopped with a full queue", events, "6 1 -1 0", "3 1 0 0", "3 1 1 0", "3 1 0 0", "3 1 1 0", "3 1 0 0", "3 1 100 1");
        Desk.due("lost", x.count(7), 6);
        Desk.due("not set any more", x.timer(1, 1), -1);
        Desk.due("it rests", x.run(1), 0);
        Desk.due("no time went by", x.count(4), 1);
    }

    private static void seeds() {
        Desk desk = Desk.started("process p 2..2; start; stop; end;", 5);
        for (int seed : VALUES) {
            Desk.due("begin", desk.house.begin(seed), 2);
            Desk.due("the seed", desk.house.count(15), seed);
            Desk.due("steps", desk.house.run(1000), 2);
        }
    }

    /** Each relation, and each of not, and, or, of less, the same, more. */
    private static void relations() {
        Desk desk = Desk.started("signal i(int, int), q(pid, pid), c(bool, bool); route e env -> p with i, q, c; process p 1..1; var x: int; var y: int; var v: pid; var w: pid; var f: bool; var g: bool; var b: bool[8]; start; next a; state a; "
            + "input i(x, y); b[0] := x = y; b[1] := x /= y; b[2] := x < y; b[3] := x <= y; b[4] := x > y; b[5] := x >= y; next -; "
            + "input q(v, w); b[0] := v = w; b[1] := v /= w; next -; "
            + "input c(f, g); b[0] := f = g; b[1] := f /= g; b[2] := f and g; b[3] := f or g; b[4] := not f; b[5] := not f and g; b[6] := not (f and g); b[7] := f or g and not g; next -; end;", 1);
        ExchangeHouse x = desk.house;
        x.go(1);
        int[][] pairs = {{1, 2}, {2, 2}, {3, 2}, {-1, 1}, {Integer.MIN_VALUE, Integer.MAX_VALUE}, {Integer.MAX_VALUE, Integer.MIN_VALUE}};
        for (int[] pair : pairs) {
            int l = pair[0];
            int r = pair[1];
            x.put(0, 1, l, r, 0);
            x.go(1);
            boolean[] want = {l == r, l != r, l < r, l <= r, l > r, l >= r};
            for (int k = 0; k < want.length; k++) {
                Desk.due("relation " + k + " of " + l + " and " + r, x.cell(1, 6 + k), want[k] ? 1 : 0);
            }
            x.put(1, 1, l, r, 0);
            x.go(1);
            Desk.due("pids", x.cell(1, 6) * 10 + x.cell(1, 7), l == r ? 10 : 1);
        }
        for (int n = 0; n < 4; n++) {
            boolean f = n / 2 == 1;
            boolean g = n % 2 == 1;
            x.put(2, 1, n / 2 * 7, n % 2 * -7, 0);
            x.go(1);
            boolean[] want = {f == g, f != g, f && g, f || g, !f, !f && g, !(f && g), f || g && !g};
            for (int k = 0; k < want.length; k++) {
                Desk.due("of bools " + f + " and " + g + ", " + k, x.cell(1, 6 + k), want[k] ? 1 : 0);
            }
        }
    }

    private static void timersReset() {
        Desk desk = Desk.started("process p 1..1; timer t; timer u; start; set t 5; set u 9; next a; state a; none; reset t; next -; none; reset u; next -; none; set u 3; next -; input *; next -; end;", 1);
        ExchangeHouse x = desk.house;
        x.run(1);
        x.none(1, 0);
        Desk.due("it is not set any more", x.timer(1, 0), -1);
        Desk.due("the other one is", x.timer(1, 1), 9);
        x.none(1, 0);
        Desk.due("reset of what is not set", x.timer(1, 0), -1);
        x.none(1, 2);
        Desk.due("set again", x.timer(1, 1), 3);
        Desk.due("just one comes", x.run(9), 1);
        Desk.due("at its time", x.count(4), 3);
        x.none(1, 1);
        Desk.due("nothing is left", x.run(9), 0);
        Desk.due("no time went by", x.count(4), 3);
    }

    /** active is of its own timer, set or with a signal anywhere in the queue. */
    private static void timersActive() {
        Desk desk = Desk.started("signal s; route e env -> p with s; process p 1..1; var b: bool[3]; timer t; timer u; timer v; start; next a; state a; save *; "
            + "none; b[0] := active t; b[1] := active u; b[2] := active v; next -; none; set t 0; next -; none; set u 0; next -; none; set v 0; next -; none; reset t; next -; none; reset u; next -; none; reset v; next -; end;", 1);
        ExchangeHouse x = desk.house;
        x.go(1);
        x.put(0, 1, 0, 0, 0);
        int[] dos = {0, 3, 2, 1, 5, 4, 6};
        String[] want = {"0 0 0", "0 0 1", "0 1 1", "1 1 1", "1 0 1", "0 0 1", "0 0 0"};
        for (int k = 0; k < dos.length; k++) {
            x.none(1, dos[k]);
            x.none(1, 0);
            Desk.same("active behind " + dos[k], Desk.row(0, 2, i -> x.cell(1, i)), want[k]);
        }
        Desk.due("the other signal is left", x.queued(1, 0, 0) + x.instance(1, 2), 1);
        x.none(1, 2);
        x.none(1, 4);
        x.go(1);
        Desk.due("reset takes out its own alone", x.queued(1, 1, 0), 101);
    }

    private static void timersWithoutValues() {
        Desk desk = Desk.started("signal m(int, int, int); route e env -> p with m; process p 1..1; timer t; start; set t 1; next a; state a; save *; end;", 1);
        ExchangeHouse x = desk.house;
        x.go(1);
        x.put(0, 1, 7, 8, 9);
        x.wait(1);
        x.go(1);
        Desk.same("a signal with values", Desk.row(0, 4, what -> x.queued(1, 0, what)), "0 0 7 8 9");
        Desk.same("a timer's without", Desk.row(0, 4, what -> x.queued(1, 1, what)), "100 1 0 0 0");
    }

    /** Four that differ in all: one in their midst stops, and the others are as they were. */
    private static void oneStopsAmongAll() {
        for (int stops = 1; stops <= 4; stops++) {
            Desk desk = Desk.started("signal i(int), g, m(int, int, int); route e env -> p with i, g, m; process p 4..6; var n: int; var a: int[3]; timer t; timer u; timer v; start; next z0; "
                + "state *; save m; input i(n); a[n % 3] := n; decide n; 1: set t 11; next z1; 2: set u 22; set t 21; next z2; 3: set v 33; create p; next z3; else: set u 44; set v 43; next z4; end; none; stop; "
                + "input g; output g to self; stop; state z0, z1, z2, z3, z4; end; route r p -> p with g;", 1);
            ExchangeHouse x = desk.house;
            x.run(4);
            for (int pid = 1; pid <= 4; pid++) {
                x.put(0, pid, pid, 0, 0);
                x.go(pid);
                for (int k = 0; k <= pid; k++) {
                    x.put(2, pid, 10 * pid + k, k, pid);
                }
            }
            String[] before = new String[6];
            for (int pid = 1; pid <= 5; pid++) {
                before[pid] = whole(x, pid);
            }
            Desk.same("the second", before[2], "0 2 3 0 0 0 0 2 0 0 2 21 22 -1 2 0 20 0 2 2 0 21 1 2");
            Desk.same("the third", before[3], "0 3 4 0 0 5 0 3 3 0 0 -1 -1 33 2 0 30 0 3 2 0 31 1 3");
            Desk.due("none", x.none(stops, 0), 1);
            for (int pid = 1; pid <= 5; pid++) {
                if (pid != stops) {
                    Desk.same(pid + " when " + stops + " stopped", whole(x, pid), before[pid]);
                }
            }
            Desk.due("alive", x.count(5), 4);
            Desk.due("no more", x.instance(stops, 0), -1);
        }
    }

    private static String whole(ExchangeHouse x, int pid) {
        return Desk.row(0, 6, what -> x.instance(pid, what)) + Desk.row(0, 3, k -> x.cell(pid, k)) + Desk.row(0, 2, t -> x.timer(pid, t))
            + Desk.row(0, 4, what -> x.queued(pid, 0, what)) + Desk.row(0, 4, what -> x.queued(pid, 1, what));
    }

    /** There was one of the route's type, and is none any more. */
    private static void nobodyOfAType() {
        Desk desk = Desk.started("signal s; route r p -> k with s; process p 1..1; start; next a; state a; none; output s; next -; none; output s via r; next -; end; process k 1..1; start; stop; end;", 1);
        ExchangeHouse x = desk.house;
        x.run(2);
        for (int k = 0; k < 2; k++) {
            int events = x.count(13);
            x.none(1, k);
            desk.events("lost, sent to none", events, "1 1 0 0", "3 0 0 1", "5 1 -1 0");
        }
        Desk.due("no error", x.count(8), 0);
        // The least number is of those that are alive.
        Desk two = Desk.started("signal s; route r p -> k with s; process p 1..1; start; next a; state a; none; output s; next -; end; process k 3..3; start; next a; state a; save s; none; stop; end;", 1);
        two.house.run(4);
        two.house.none(2, 0);
        two.house.none(1, 0);
        Desk.due("the least number", two.house.instance(3, 2), 1);
        two.house.none(3, 0);
        two.house.none(1, 0);
        Desk.due("the least number then", two.house.instance(4, 2), 1);
    }

    /** The twelfth instance with all its cells, timers and a full queue. */
    private static void lastOfTwelve() {
        Desk desk = Desk.started("signal i(int, int, int); route e env -> p with i; process p 12..12; var x: int; var y: int; var z: int; var a: int[8]; var b: int[5]; timer t; timer u; timer v; start; next w; "
            + "state w; save *; none; next q; state q; input i(x, y, z); a[7] := x; b[4] := z; set v 9; next w; none; set v 0; next -; none; reset v; next -; end;", 1);
        ExchangeHouse x = desk.house;
        x.run(12);
        for (int k = 0; k < 7; k++) {
            x.put(0, 12, k, 10 + k, 20 + k);
        }
        Desk.due("lost", x.count(7), 1);
        x.none(12, 0);
        Desk.due("a step", x.go(12), 1);
        Desk.same("cells", Desk.row(0, 16, k -> x.cell(12, k)), "0 10 20 0 0 0 0 0 0 0 0 0 0 0 0 20 0");
        Desk.same("timers", Desk.row(0, 3, t -> x.timer(12, t)), "-1 -1 9 -1");
        Desk.same("the queue", Desk.row(0, 5, k -> x.queued(12, k, 4)), "21 22 23 24 25 -1");
        x.none(12, 0);
        x.none(12, 0);
        x.go(1);
        Desk.due("its timer is the last of a full queue", x.queued(12, 5, 0), 102);
        x.none(12, 1);
        Desk.due("reset takes it out", x.instance(12, 2), 5);
        Desk.due("a step", x.go(12), 1);
        Desk.due("the next one", x.cell(12, 0), 1);
    }

    private static void tenRoutes() {
        Desk desk = Desk.started("signal " + Desk.repeat("s%, ", 19) + "z; " + Desk.repeat("route r% env -> p delay % with s%; ", 9) + "route r9 p -> env delay 9 with z; process p 1..1; start; next a; state a; input *; next -; none; output z; next -; none; output s0; next -; end;", 1);
        ExchangeHouse x = desk.house;
        x.run(1);
        for (int s = 0; s < 20; s++) {
            Desk.due("put " + s, x.put(s, 1, 0, 0, 0), s < 9 ? 1 : 0);
        }
        Desk.due("none", x.none(1, 0), 1);
        Desk.same("signals on routes", Desk.row(-1, 10, r -> x.way(r, 0, 0)), "-1 -1 1 2 3 4 5 6 7 8 19 -1");
        Desk.same("times", Desk.row(-1, 10, r -> x.way(r, 0, 3)), "-1 -1 1 2 3 4 5 6 7 8 9 -1");
        Desk.due("all come", x.run(99), 9);
        Desk.due("out", x.count(12), 1);
        Desk.due("now", x.count(4), 9);
        Desk.due("none", x.none(1, 1), 1);
        Desk.due("no way by any of the ten", x.count(9), 3);
    }

    private static void sixteenCells() {
        Desk desk = Desk.started("process p 2..2; var a: int[8]; var b: int[8]; start; a[0] := 5; b[7] := 6; next z; state z; end;", 1);
        ExchangeHouse x = desk.house;
        x.run(2);
        for (int pid = 1; pid <= 2; pid++) {
            int its = pid;
            Desk.same("cells", Desk.row(-1, 17, k -> x.cell(its, k)), "0 5 0 0 0 0 0 0 0 0 0 0 0 0 0 0 6 0 0");
        }
    }

    /** The whens and nones of a type are no other's. */
    private static void rowsOfOtherTypes() {
        Desk desk = Desk.started("process p 1..1; start; next a; state a; end; process q 1..1; var n: int; start; next a; state a; when n = 0; n := 1; next -; none; next -; end; process r 1..1; start; next a; state a; none; stop; end;", 1);
        ExchangeHouse x = desk.house;
        Desk.due("steps", x.run(99), 4);
        Desk.same("no step", Desk.row(1, 3, pid -> x.instance(pid, 6)), "0 0 0");
        Desk.same("nones", Desk.row(1, 3, pid -> x.none(pid, 0)), "0 1 1");
        Desk other = Desk.started("process p 1..1; start; next a; state a; end; process q 0..1; start; create q; next a; state a; none; stop; when true; stop; end;", 1);
        Desk.due("steps", other.house.run(99), 1);
        Desk.due("no none", other.house.none(1, 0), 0);
        Desk.due("no move", other.house.search(9), 1);
        Desk.due("no move", other.house.state(0, 3), 0);
    }

    /** All that an instance has at its beginning, one that begin() made and one that another made. */
    private static void atFirst() {
        Desk desk = Desk.started("process p 1..2 (k: int, b: bool, q: pid); var a: int[2]; timer t; start; create p(5, true, self); next z; state z; end;", 1);
        ExchangeHouse x = desk.house;
        Desk.same("of begin()", Desk.row(0, 6, what -> x.instance(1, what)) + Desk.row(0, 5, k -> x.cell(1, k)) + x.timer(1, 0), "0 -1 0 0 0 0 1 0 0 0 0 0 0 -1");
        x.go(1);
        Desk.same("the one that made it", Desk.row(0, 6, what -> x.instance(1, what)), "0 0 0 0 0 2 0");
        Desk.same("of create", Desk.row(0, 6, what -> x.instance(2, what)) + Desk.row(0, 5, k -> x.cell(2, k)) + x.timer(2, 0), "0 -1 0 0 1 0 1 5 1 1 0 0 0 -1");
        Desk.due("it was made last", x.event(1, 0) * 10 + x.event(1, 3), 1);
    }

    /** The first route told, of those that lead there and carry it. */
    private static void whichRoute() {
        String text = "signal s, u; route a k -> p delay 1 with s; route b p -> k delay 2 with u; route c p -> q delay 3 with u, s; route d p -> k delay 4 with s, u; route e p -> env delay 5 with s; route f p -> k delay 6 with s; "
            + "process p 1..1; var v: pid; start; v := offspring; create k; next z; state z; none; output s to offspring; next -; none; output u to offspring; next -; none; output s; next -; none; output u; next -; none; output s via f; next -; none; output s via e; next -; none; output s to v; next -; none; output s to self; next -; end; "
            + "process k 0..1; start; next z; state z; save *; end; process q 1..1; start; next z; state z; save *; end;";
        int[] route = {3, 1, 2, 1, 5, 4, -1, -1};
        for (int k = 0; k < route.length; k++) {
            Desk desk = Desk.started(text, 1);
            ExchangeHouse x = desk.house;
            x.run(3);
            int events = x.count(13);
            Desk.due("none", x.none(1, k), 1);
            for (int r = 0; r < 6; r++) {
                Desk.due("output " + k + " on route " + r, x.way(r, 0, 3), r == route[k] ? r + 1 : -1);
            }
            int to = k == 5 || k == 6 ? 0 : k == 2 ? 2 : 3;
            if (k < 7) {
                Desk.same("it was sent", desk.event(events), "1 1 " + (k == 1 || k == 3 ? 1 : 0) + " " + to);
            }
            Desk.due("lost to null", x.count(7), k == 6 ? 1 : 0);
            Desk.due("without a way", x.count(9), k == 7 ? 3 : 0);
        }
        Desk env = Desk.started("signal s, u; route a env -> q delay 1 with s; route b p -> p delay 2 with s; route c env -> p delay 3 with u; route d env -> p delay 4 with s, u; route f env -> p delay 5 with s; process p 1..1; start; stop; end; process q 1..1; start; stop; end;", 1);
        Desk.due("put", env.house.put(0, 1, 0, 0, 0), 1);
        Desk.same("by the first route from env to its type", Desk.row(0, 4, r -> env.house.way(r, 0, 3)), "-1 -1 -1 4 -1");
        Desk.due("put", env.house.put(1, 1, 0, 0, 0), 1);
        Desk.same("by the first route from env to its type", Desk.row(0, 4, r -> env.house.way(r, 0, 3)), "-1 -1 3 4 -1");
        Desk.due("put", env.house.put(0, 2, 0, 0, 0), 1);
        Desk.due("by the other's route", env.house.way(0, 0, 2), 2);
        Desk.due("none leads there", env.house.put(1, 2, 0, 0, 0), 0);
    }

    /** The error of the first one counts. */
    private static void whichError() {
        String[] acts = {"output i(1 / n)", "output i(a[2])", "output i(1) to q[2]", "output i(1 / n) to q[2]", "output i(a[2]) to q[n / n]", "output i(1)", "output i(1) to self", "output i(1) to null", "output i(1 % n) to null",
            "a[2] := 1 / n", "a[1 / n] := a[2]", "a[n] := 1 / n", "set t a[2]", "set t 1 / n", "create p(a[2], 1 / n)", "create p(1 / n, a[2])", "decide a[2] + 1 / n; 1: end", "decide 1 / n + a[2]; 1: end",
            "b := n = 0 or a[2] = 0", "b := n = 1 and 1 / n = 0", "b := 1 / n = a[2]", "a[a[a[2]]] := 1", "n := a[0 - 1] + 1 / n", "n := - (1 / n) + a[2]", "b := not (a[2] = 1 / n)"};
        int[] want = {2, 1, 1, 2, 1, 3, 3, 0, 2, 1, 2, 2, 1, 2, 1, 2, 1, 2, 1, 2, 2, 1, 1, 2, 1};
        for (int k = 0; k < acts.length; k++) {
            String text = "signal i(int); process p 1..2 (n: int, m: int); var a: int[2]; var q: pid[2]; var b: bool; timer t; start; l: ";
            Desk desk = Desk.started(text + acts[k] + "; next z; state z; none; join l; end;", 1);
            ExchangeHouse x = desk.house;
            Desk.due("a step", x.go(1), 1);
            Desk.due("error of " + acts[k], x.count(9), want[k]);
            Desk.due("place of " + acts[k], x.count(10), want[k] == 0 ? 0 : text.length());
            Desk.due("made by " + acts[k], x.count(6), 1);
            Desk.due("alive behind " + acts[k], x.count(5), want[k] == 0 ? 1 : 0);
        }
    }

    private static void whatWasDoneStays() {
        Desk desk = Desk.started("signal s(int), o; route r p -> q with s; route d p -> q delay 4 with s; route w p -> env with o; process p 1..1; var n: int; start; output s(5); output s(6) via d; output o; create k; n := 1 / n; output s(7); stop; end; "
            + "process q 1..1; start; next z; state z; save s; end; process k 0..1; start; stop; end;", 1);
        ExchangeHouse x = desk.house;
        x.go(1);
        desk.events("up to the error", 2, "1 1 0 2", "1 1 0 2", "1 1 1 0", "4 0 1 1", "0 3 -1 1", "7 1 -1 0", "6 1 -1 0");
        Desk.due("in the queue", x.queued(2, 0, 2), 5);
        Desk.due("no other", x.instance(2, 2), 1);
        Desk.due("on the way", x.way(1, 0, 4), 6);
        Desk.due("out", x.count(12), 1);
        Desk.due("made, by one that is no more", x.instance(3, 4), 1);
        Desk.due("errors", x.count(8), 1);
        // A second error takes the first one's place.
        String text = "process p 1..1; var n: int; start; n := 1 / n; stop; end; process q 1..1; var a: int[2]; start; a[5] := 1; stop; end;";
        Desk two = Desk.started(text, 1);
        two.house.run(1);
        Desk.same("the first", Desk.row(8, 10, two.house::count), "1 2 " + text.indexOf("n := 1"));
        two.house.run(1);
        Desk.same("the latest", Desk.row(8, 10, two.house::count), "2 1 " + text.indexOf("a[5]"));
    }

    /** NOW becomes the least time of all that is on the way or set. */
    private static void earliestFirst() {
        int[][] times = {{3, 5, 7, 9}, {9, 7, 5, 3}, {5, 3, 9, 7}, {7, 9, 3, 5}};
        for (int[] its : times) {
            Desk desk = Desk.started("signal s, u; route a env -> p delay " + its[0] + " with s; route b env -> p delay " + its[1] + " with u; process p 1..1; timer t; timer v; start; set t " + its[2] + "; set v " + its[3] + "; next z; state z; input *; next -; end;", 1);
            ExchangeHouse x = desk.house;
            x.put(0, 1, 0, 0, 0);
            x.put(1, 1, 0, 0, 0);
            Desk.due("start", x.run(1), 1);
            for (int now = 3; now <= 9; now += 2) {
                Desk.due("a step", x.run(1), 1);
                Desk.due("now", x.count(4), now);
            }
            Desk.due("it rests", x.run(1), 0);
        }
    }

    /** Without delay at once; with a delay of 0 when what is due comes; behind the others. */
    private static void atOnceOrNot() {
        Desk desk = Desk.started("signal s(int); route a p -> q with s; route b p -> q delay 0 with s; route c p -> q delay 0 .. 0 with s; process p 1..1; start; output s(1) via c; output s(2) via b; output s(3) via a; next z; state z; end; process q 1..1; start; next z; state z; save s; end;", 1);
        ExchangeHouse x = desk.house;
        x.go(1);
        Desk.due("at once", x.instance(2, 2), 1);
        Desk.same("not at once", x.way(1, 0, 3) + " " + x.way(2, 0, 3), "0 0");
        x.go(1);
        Desk.same("then, routes in order", Desk.row(0, 3, i -> x.queued(2, i, 2)), "3 2 1 -1");
        Desk run = Desk.started("signal s; route b p -> q delay 0 with s; process p 1..1; start; output s; next z; state z; end; process q 1..1; start; next z; state z; input s; stop; end;", 1);
        Desk.due("it comes between steps", run.house.run(2), 2);
        Desk.due("it came", run.house.instance(2, 2), 1);
        Desk.due("a step", run.house.run(9), 1);
    }

    /** An input without names drops the values. */
    private static void droppedValues() {
        Desk desk = Desk.started("signal m(int, bool, pid); route e env -> p with m; process p 1..1; var n: int; var b: bool; var q: pid; start; n := 3; next z; state z; input m; next y; state y; input m(n, b, q); next x; state x; input *; next -; end;", 1);
        ExchangeHouse x = desk.house;
        x.go(1);
        x.put(0, 1, 7, 7, 7);
        x.go(1);
        Desk.same("dropped", Desk.row(0, 2, k -> x.cell(1, k)), "3 0 0");
        x.put(0, 1, 8, 8, 8);
        x.go(1);
        Desk.same("kept", Desk.row(0, 2, k -> x.cell(1, k)), "8 1 8");
        x.put(0, 1, 9, 0, 9);
        x.go(1);
        Desk.same("dropped by *", Desk.row(0, 2, k -> x.cell(1, k)), "8 1 8");
    }
}
