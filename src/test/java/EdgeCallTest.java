import java.util.function.ToIntFunction;

/** The boundaries of the promises: what is refused, what a refused call leaves as it was, what is there without a RUN. */
public final class EdgeCallTest {
    private static final int LEAST = Integer.MIN_VALUE;
    private static final int MOST = Integer.MAX_VALUE;
    private static final String TEXT = "signal s(int), u, w; route e env -> p delay 2 with s; route o p -> env with u; route f env -> p with w; "
        + "process p 2..3; var n: int; var b: bool; timer t; timer v; start; set t 50; output u; next a; state a, c; save w; none; n := n + 1; next -; none; stop; end;";
    private static final String CHART = "chart; inst x = 1; x -> env : u; opt env -> x : s; end;";
    private static final String TAPE = "signal zz; signal @z";

    public static void main(String[] args) {
        feeding();
        loading();
        refusedCalls();
        refusedQueries();
        faults();
        whatStays();
        beginningAgain();
        withoutRun();
        withoutSystem();
        running();
        waiting();
        looking();
        counting();
        ofTypes();
        warnings();
        places();
        Desk.close("EdgeCallTest");
    }

    /** Two instances, one with a signal in its queue, one on the way, timers, a fault, a search, a chart. */
    private static Desk busy() {
        Desk desk = Desk.started(TEXT, 7);
        ExchangeHouse x = desk.house;
        x.run(2);
        x.put(0, 1, 5, 0, 0);
        x.put(2, 2, 0, 0, 0);
        x.none(1, 0);
        x.search(2);
        Desk.due("the chart is kept", desk.chart(CHART), 1);
        Desk.due("a fault", desk.load("signal"), 1);
        return desk;
    }

    private static void feeding() {
        ExchangeHouse x = new ExchangeHouse();
        int blank = 0x20202020;
        for (int i = 1; i < 250; i++) {
            x.feed(blank, blank, blank, blank, blank);
        }
        Desk.due("bytes", x.count(14), 4980);
        Desk desk = new Desk();
        desk.house = x;
        desk.feed(Desk.bytes("signal abcdefghij;# "));
        Desk.due("bytes", x.count(14), 5000);
        for (int i = 0; i < 3; i++) {
            Desk.due("it would have more than 5000", x.feed(0, -1, LEAST, MOST, 1), false);
            Desk.due("bytes", x.count(14), 5000);
        }
        Desk.due("more than there are", x.load(5001), -2);
        Desk.due("all of them", x.load(5000), 0);
        Desk.due("signals", x.count(0), 1);
        Desk.due("the tape is empty", x.count(14), 0);
        Desk.due("there is room again", x.feed(blank, blank, blank, blank, blank), true);
        Desk.due("bytes", x.count(14), 20);
        // Of each number the highest byte first, each of all four, and of five numbers.
        String text = "signal q,w,e,r,t,y; ";
        for (int at = 0; at < 20; at++) {
            Desk one = new Desk();
            byte[] bytes = Desk.bytes(text);
            bytes[at] = (byte) 200;
            one.feed(bytes);
            Desk.due("a byte that is none", one.house.load(20), 1);
            Desk.due("its place", one.house.place(), at < 6 ? 0 : at);
        }
    }

    private static void loading() {
        Desk desk = new Desk();
        ExchangeHouse x = desk.house;
        Desk.due("an empty tape", x.load(1), -2);
        Desk.due("an empty tape", x.load(-1), -2);
        Desk.due("no place", x.place(), -1);
        Desk.due("none are a text", x.load(0), 1);
        Desk.due("its end", x.place(), 0);
        desk.feed(Desk.bytes("signal a; signal b; "));
        Desk.due("one too many", x.load(21), -2);
        Desk.due("all", x.load(20), 0);
        Desk.due("signals", x.count(0), 2);
        desk.feed(Desk.bytes("signal a; signal b; "));
        Desk.due("the first nine", x.load(9), 0);
        Desk.due("signals", x.count(0), 1);
        Desk.due("the rest is gone", x.count(14), 0);
    }

    private static void refuse(String what, ToIntFunction<ExchangeHouse> call, int want) {
        Desk once = busy();
        once.feed(Desk.bytes(TAPE));
        String before = once.look();
        Desk.due(what, call.applyAsInt(once.house), want);
        Desk.same(what + " leaves all as it was", once.look(), before);
        Desk.due(what + " leaves the tape", once.house.load(TAPE.length()), 1);
        Desk.due(what + " leaves the tape's bytes", once.house.place(), 18);
    }

    private static void refusedCalls() {
        for (int n : new int[] {LEAST, -1, 21, MOST}) {
            refuse("load " + n, x -> x.load(n), -2);
            refuse("chart " + n, x -> x.chart(n), -2);
        }
        for (int n : new int[] {LEAST, -1, 0, 1001, MOST}) {
            refuse("run " + n, x -> x.run(n), -1);
        }
        for (int n : new int[] {LEAST, -1, 1000001, MOST}) {
            refuse("wait " + n, x -> x.wait(n), -1);
        }
        for (int pid : new int[] {LEAST, -1, 0, 1, 2, 3, 12, MOST}) {
            refuse("go " + pid, x -> x.go(pid), 0);
            refuse("none of " + pid, x -> x.none(pid, 2), 0);
        }
        for (int k : new int[] {LEAST, -1, 2, 3, MOST}) {
            refuse("none " + k, x -> x.none(1, k), 0);
        }
        for (int signal : new int[] {LEAST, -1, 1, 3, 20, 100, MOST}) {
            refuse("put of " + signal, x -> x.put(signal, 1, 1, 1, 1), 0);
        }
        for (int pid : new int[] {LEAST, -1, 0, 3, MOST}) {
            refuse("put to " + pid, x -> x.put(0, pid, 1, 1, 1), 0);
            refuse("none of none, " + pid, x -> x.none(pid, 0), 0);
        }
        for (int n : new int[] {LEAST, -1, 0, 201, MOST}) {
            refuse("search " + n, x -> x.search(n), -1);
        }
        for (int k : new int[] {LEAST, -1, 2, 200, MOST}) {
            refuse("visit " + k, x -> x.visit(k), 0);
        }
        refuse("wait 0", x -> x.wait(0), 0);
        refuse("search as before", x -> x.search(2), 2);
    }

    private static void refusedQueries() {
        Desk desk = busy();
        ExchangeHouse x = desk.house;
        for (int wrong : new int[] {LEAST, LEAST + 1, -2, -1, 21, 100, 500, MOST - 1, MOST}) {
            Desk.due("alive " + wrong, x.alive(wrong), -1);
            Desk.due("instance " + wrong, x.instance(wrong, 0), -1);
            Desk.due("instance, what " + wrong, x.instance(1, wrong), -1);
            Desk.due("cell " + wrong, x.cell(1, wrong), 0);
            Desk.due("cell of " + wrong, x.cell(wrong, 0), 0);
            Desk.due("timer " + wrong, x.timer(1, wrong), -1);
            Desk.due("timer of " + wrong, x.timer(wrong, 0), -1);
            Desk.due("queued " + wrong, x.queued(2, wrong, 0), -1);
            Desk.due("queued of " + wrong, x.queued(wrong, 0, 0), -1);
            Desk.due("queued, what " + wrong, x.queued(2, 0, wrong), -1);
            Desk.due("way " + wrong, x.way(0, wrong, 0), -1);
            Desk.due("way of " + wrong, x.way(wrong, 0, 0), -1);
            Desk.due("way, what " + wrong, x.way(0, 0, wrong), -1);
            Desk.due("out " + wrong, x.out(wrong, 0), -1);
            Desk.due("out, what " + wrong, x.out(0, wrong), -1);
            Desk.due("event " + wrong, x.event(wrong, 0), -1);
            Desk.due("event, what " + wrong, x.event(0, wrong), -1);
            Desk.due("count " + wrong, x.count(wrong), -1);
            Desk.due("type " + wrong, x.type(wrong, 0), -1);
            Desk.due("type, what " + wrong, x.type(0, wrong), -1);
            Desk.due("warning " + wrong, x.warning(wrong, 0), -1);
            Desk.due("warning, what " + wrong, x.warning(0, wrong), -1);
            Desk.due("state " + wrong, x.state(wrong, 0), -1);
            Desk.due("state, what " + wrong, x.state(0, wrong), -1);
            Desk.due("first, what " + wrong, x.first(wrong, 0, 0), -1);
            Desk.due("choices " + wrong, x.choices(wrong), -1);
        }
    }

    /** A text or chart with a fault leaves the system, the RUN, its SEARCH, the choices, the warnings. */
    private static void faults() {
        String[] texts = {"signal", "signa?", "proces process"};
        for (String text : texts) {
            Desk desk = busy();
            String before = desk.look();
            Desk.due("a fault", desk.load(text), 1);
            Desk.same("a fault leaves the rest", desk.look().replaceFirst("place \\d+", ""), before.replaceFirst("place \\d+", ""));
        }
        Desk late = busy();
        String before = late.look();
        Desk.due("a fault", late.load("process a 5..6; var k: int[4]; timer t; start; next z; state z; none; next y; end; signal a, b;"), 4);
        Desk.due("its place, that of y", late.house.place(), 75);
        Desk.same("a fault leaves the rest", late.look().replaceFirst("place \\d+", ""), before.replaceFirst("place \\d+", ""));
        Desk chart = busy();
        before = chart.look();
        Desk.due("a fault", chart.chart("chart;?"), -11);
        Desk.same("a chart's fault leaves the rest", chart.look(), before);
        Desk.due("the run goes on", chart.house.run(9), 3);
    }

    /** A chart that is read, a search, a wait of 0 leave the RUN. */
    private static void whatStays() {
        Desk desk = busy();
        String before = desk.look();
        Desk.due("the same chart", desk.chart(CHART), 1);
        Desk.same("leaves all", desk.look(), before);
    }

    private static void beginningAgain() {
        Desk desk = busy();
        ExchangeHouse x = desk.house;
        desk.feed(Desk.bytes(TAPE));
        x.wait(9);
        Desk.due("begin", x.begin(-3), 2);
        // signals, routes, types, warnings; now, alive, made, lost, errors, error, place, steps, out, events, bytes, seed, search
        Desk.same("counts", Desk.row(0, 18, x::count), "3 3 1 3 0 2 2 0 0 0 0 0 0 2 20 -3 0 0 0");
        Desk.due("the place stays", x.place(), 6);
        Desk.due("nothing on the way", x.way(0, 0, 0), -1);
        Desk.due("nothing out", x.out(0, 0), -1);
        Desk.due("nothing in a queue", x.queued(2, 0, 0), -1);
        Desk.due("nothing set", x.timer(1, 0), -1);
        Desk.due("no search", x.state(0, 2), -1);
        Desk.same("instances", Desk.row(0, 6, what -> x.instance(2, what)), "0 -1 0 0 0 0 1");
        Desk.due("cells", x.cell(1, 0), 0);
        desk.events("made by 0", 0, "0 1 -1 0", "0 2 -1 0");
        Desk.due("none went last: the first one goes", x.run(1), 1);
        Desk.due("it went", x.instance(1, 1), 0);
    }

    private static void noRun(String when, ExchangeHouse x) {
        Desk.same(when + ": NONE of those that do something", x.run(1) + " " + x.go(1) + " " + x.none(1, 0) + " " + x.wait(1) + " " + x.wait(0) + " "
            + x.put(0, 1, 0, 0, 0) + " " + x.search(1) + " " + x.visit(0), "-1 -1 -1 -1 -1 -1 -1 -1");
        Desk.same(when + ": NONE of instances", x.alive(0) + " " + Desk.row(0, 6, what -> x.instance(1, what)) + x.timer(1, 0), "-1 -1 -1 -1 -1 -1 -1 -1 -1");
        Desk.due(when + ": 0 of cells", x.cell(1, 0), 0);
        Desk.same(when + ": NONE of signals", Desk.row(0, 4, what -> x.queued(1, 0, what)) + Desk.row(0, 6, what -> x.way(0, 0, what)) + Desk.row(0, 5, what -> x.out(0, what)),
            "-1 -1 -1 -1 -1 -1 -1 -1 -1 -1 -1 -1 -1 -1 -1 -1 -1 -1");
        Desk.same(when + ": NONE of events, states", Desk.row(0, 3, what -> x.event(0, what)) + Desk.row(0, 6, what -> x.state(0, what)), "-1 -1 -1 -1 -1 -1 -1 -1 -1 -1 -1");
        Desk.same(when + ": NONE of first", Desk.row(0, 4, what -> x.first(what, 0, 0)) + x.first(4, 0, -1), "-1 -1 -1 -1 -1 -1");
        Desk.same(when + ": 0 of counts of a run", Desk.row(4, 13, x::count) + Desk.row(15, 18, x::count), "0 0 0 0 0 0 0 0 0 0 0 0 0 0");
    }

    /** A system without a RUN, at first and when a text took another's place. */
    private static void withoutRun() {
        Desk desk = new Desk();
        Desk.due("load", desk.load(TEXT), 0);
        noRun("not begun", desk.house);
        Desk busy = busy();
        Desk.due("load", busy.load(TEXT), 0);
        noRun("the run is gone", busy.house);
        Desk.same("the system is there", Desk.row(0, 3, busy.house::count), "3 3 1 3");
        busy.feed(Desk.bytes(CHART));
        Desk.due("a chart without a run", busy.house.chart(CHART.length()), -1);
        Desk.due("the tape is empty all the same", busy.house.count(14), 0);
        busy.feed(Desk.bytes(CHART));
        Desk.due("a chart of no bytes without a run", busy.house.chart(0), -1);
        Desk.due("the tape is empty all the same", busy.house.count(14), 0);
        Desk.due("no fault by it", busy.house.place(), 6);
        Desk.due("begin", busy.house.begin(1), 2);
        Desk.due("a run again", busy.house.alive(1), 2);
    }

    private static void withoutSystem() {
        Desk desk = new Desk();
        Desk.due("begin", desk.house.begin(1), -1);
        noRun("a new object", desk.house);
        Desk.due("a fault", desk.load("signal s, s;"), 3);
        Desk.due("begin", desk.house.begin(1), -1);
        noRun("a new object with a fault", desk.house);
        Desk.same("nothing of a system", Desk.row(0, 3, desk.house::count) + Desk.row(0, 4, what -> desk.house.type(0, what)) + desk.house.warning(0, 0), "0 0 0 0 -1 -1 -1 -1 -1 -1");
    }

    private static void running() {
        Desk desk = Desk.started("process p 1..1; start; next a; state a; when true; next -; end;", 1);
        ExchangeHouse x = desk.house;
        Desk.due("one step", x.run(1), 1);
        Desk.due("a thousand", x.run(1000), 1000);
        Desk.due("steps", x.count(11), 1001);
        Desk.due("just under", x.run(999), 999);
        Desk.due("too many", x.run(1001), -1);
        Desk.due("steps", x.count(11), 2000);
        Desk rest = Desk.started("process p 3..3; start; stop; end;", 1);
        Desk.due("two of three", rest.house.run(2), 2);
        Desk.due("the last", rest.house.run(2), 1);
        Desk.due("it rests", rest.house.run(1000), 0);
    }

    private static void waiting() {
        Desk desk = Desk.started("process p 1..1; start; stop; end;", 1);
        ExchangeHouse x = desk.house;
        Desk.due("0", x.wait(0), 0);
        Desk.due("1", x.wait(1), 1);
        Desk.due("the longest", x.wait(1000000), 1000001);
        Desk.due("too long", x.wait(1000001), -1);
        Desk.due("less than none", x.wait(-1), -1);
        Desk.due("now", x.count(4), 1000001);
        Desk.due("just under", x.wait(999999), 2000000);
    }

    private static void looking() {
        Desk desk = busy();
        ExchangeHouse x = desk.house;
        Desk.same("alive", Desk.row(-1, 3, x::alive), "-1 1 2 -1 -1");
        Desk.same("instance", Desk.row(-1, 7, what -> x.instance(2, what)), "-1 0 0 1 0 0 0 0 -1");
        Desk.same("cells", Desk.row(-1, 3, k -> x.cell(1, k)), "0 1 0 0 0");
        Desk.same("timers", Desk.row(-1, 3, t -> x.timer(1, t)), "-1 50 -1 -1 -1");
        Desk.same("queued", Desk.row(-1, 5, what -> x.queued(2, 0, what)), "-1 2 0 0 0 0 -1");
        Desk.same("no second one", Desk.row(0, 4, what -> x.queued(2, 1, what)), "-1 -1 -1 -1 -1");
        Desk.same("an empty queue", Desk.row(0, 4, what -> x.queued(1, 0, what)), "-1 -1 -1 -1 -1");
        Desk.same("way", Desk.row(-1, 7, what -> x.way(0, 0, what)), "-1 0 0 1 2 5 0 0 -1");
        Desk.same("no second one", Desk.row(0, 6, what -> x.way(0, 1, what)), "-1 -1 -1 -1 -1 -1 -1");
        Desk.same("an empty route, and none", Desk.row(-1, 4, r -> x.way(r, 0, 0)), "-1 0 -1 -1 -1 -1");
        Desk.same("out", Desk.row(-1, 6, what -> x.out(1, what)), "-1 1 2 0 0 0 0 -1");
        Desk.same("outs", Desk.row(-1, 2, i -> x.out(i, 1)), "-1 1 2 -1");
        Desk.same("event", Desk.row(-1, 4, what -> x.event(0, what)), "-1 0 1 -1 0 -1");
        Desk.same("events", Desk.row(-1, x.count(13), i -> x.event(i, 0)), "-1 0 0 1 4 5 1 4 5 5 -1");
        x.none(1, 1);
        Desk.same("one that is not alive any more", Desk.row(0, 6, what -> x.instance(1, what)) + x.cell(1, 0) + " " + x.timer(1, 0) + " " + x.queued(1, 0, 0), "-1 -1 -1 -1 -1 -1 -1 0 -1 -1");
        Desk.same("alive", Desk.row(-1, 2, x::alive), "-1 2 -1 -1");
    }

    private static void counting() {
        Desk desk = busy();
        // A fault's place, and so on, are no counts: -1 and 19 are refused.
        Desk.same("counts", Desk.row(-1, 19, desk.house::count), "-1 3 3 1 3 0 2 2 0 0 0 0 2 2 9 0 7 2 1 " + desk.house.count(18) + " -1");
        Desk.due("moves were looked at", desk.house.count(18) > 0, true);
    }

    private static void ofTypes() {
        Desk desk = new Desk();
        Desk.due("load", desk.load(Desk.repeat("process p% %..20%; start; create p%; stop; end; ", 6).replaceAll("20[0-9]", "200")), 0);
        for (int t = -1; t <= 6; t++) {
            int type = t;
            Desk.same("type " + t, Desk.row(-1, 5, what -> desk.house.type(type, what)), t < 0 || t > 5 ? "-1 -1 -1 -1 -1 -1 -1" : "-1 0 0 0 " + t + " 200 -1");
        }
    }

    private static void warnings() {
        Desk desk = new Desk();
        Desk.due("none", desk.house.warning(0, 0), -1);
        Desk.due("load", desk.load("signal a;"), 0);
        Desk.same("numbers", Desk.row(-1, 2, i -> desk.house.warning(i, 0)), "-1 2 3 -1");
        Desk.same("places", Desk.row(-1, 2, i -> desk.house.warning(i, 1)), "-1 7 7 -1");
        Desk.same("others", Desk.row(-1, 2, what -> desk.house.warning(1, what)), "-1 3 7 -1");
    }

    /** The place is of the latest fault, of a text or of a chart. */
    private static void places() {
        Desk desk = new Desk();
        ExchangeHouse x = desk.house;
        Desk.due("none", x.place(), -1);
        Desk.due("load", desk.load(TEXT), 0);
        Desk.due("none", x.place(), -1);
        x.begin(1);
        Desk.due("chart", desk.chart("chart;"), 1);
        Desk.due("none", x.place(), -1);
        Desk.due("a chart's fault", desk.chart("chart; ?"), -11);
        Desk.due("its place", x.place(), 7);
        Desk.due("a text's fault", desk.load("signal a, b, a;"), 3);
        Desk.due("its place", x.place(), 13);
        Desk.due("a chart's fault", desk.chart("chart; x -> env : u;"), -14);
        Desk.due("its place", x.place(), 7);
        Desk.due("no fault: a wrong n", x.load(-1), -2);
        Desk.due("its place", x.place(), 7);
    }
}
