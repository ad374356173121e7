/** Promises 12 to 21: alive, instance, cell, timer, queued, way, out, event, count, type. */
public final class LookTest {
    private static final String TALK = "signal ping(int), pong(bool, pid); route up a -> b delay 2 with ping; route dn b -> a with pong; route o a -> env with ping, pong; "
        + "process a 1..1; var n: int; var b: bool; var w: pid; timer t; timer u; start; set u 8; output ping(7); next idle; "
        + "state idle; save ping; input pong(b, w); n := n + 1; output pong(b, w) via o; next done; state done; end; "
        + "process b 1..3; var n: int; start; next z; state z; input ping(n); output pong(n = 7, self) to sender; next -; end;";

    public static void main(String[] args) {
        looking();
        steps();
        outs();
        traceOfMany();
        counts();
        types();
        Desk.close("LookTest");
    }

    private static void looking() {
        Desk desk = Desk.started(TALK, 9);
        ExchangeHouse x = desk.house;
        Desk.due("alive", x.alive(0) * 10 + x.alive(1), 12);
        Desk.due("alive beyond", x.alive(2), -1);
        Desk.due("alive below", x.alive(-1), -1);
        Desk.due("steps", x.run(2), 2);
        Desk.due("type", x.instance(2, 0), 1);
        Desk.due("state", x.instance(2, 1), 0);
        Desk.due("another what", x.instance(2, 7), -1);
        Desk.due("another what", x.instance(2, -1), -1);
        Desk.due("another pid", x.instance(3, 0), -1);
        Desk.due("null", x.instance(0, 0), -1);
        Desk.due("a timer", x.timer(1, 1), 8);
        Desk.due("one that is not set", x.timer(1, 0), -1);
        Desk.due("a type without timers", x.timer(2, 0), -1);
        Desk.due("on the way", x.way(0, 0, 4), 7);
        Desk.due("step", x.run(1), 1);
        Desk.due("cell", x.cell(2, 0), 7);
        Desk.due("sender", x.instance(2, 3), 1);
        Desk.due("queued", x.instance(1, 2), 1);
        Desk.due("signal", x.queued(1, 0, 0), 1);
        Desk.due("sender", x.queued(1, 0, 1), 2);
        Desk.due("a bool", x.queued(1, 0, 2), 1);
        Desk.due("a pid", x.queued(1, 0, 3), 2);
        Desk.due("no third value", x.queued(1, 0, 4), 0);
        Desk.due("another what", x.queued(1, 0, 5), -1);
        Desk.due("another what", x.queued(1, 0, -1), -1);
        Desk.due("no second one", x.queued(1, 1, 0), -1);
        Desk.due("none below", x.queued(1, -1, 0), -1);
        Desk.due("no instance", x.queued(5, 0, 0), -1);
        Desk.due("step", x.run(1), 1);
        Desk.due("bool", x.cell(1, 1), 1);
        Desk.due("pid", x.cell(1, 2), 2);
        Desk.due("no cell more", x.cell(1, 3), 0);
        Desk.due("state", x.instance(1, 1), 1);
        desk.events("all", 0, "0 1 -1 0", "0 2 -1 0", "1 1 0 2", "5 1 -1 0", "5 2 -1 0", "2 2 0 1", "1 2 1 1", "5 2 -1 0",
            "2 1 1 2", "1 1 1 0", "4 0 1 1", "5 1 -1 0");
        Desk.due("event beyond", x.event(12, 0), -1);
        Desk.due("event below", x.event(-1, 0), -1);
        Desk.due("another what", x.event(0, 4), -1);
        Desk.due("another what", x.event(0, -1), -1);
        Desk.due("a timer comes, and is lost", x.run(9), 1);
        desk.events("then", 12, "8 1 101 1", "3 1 101 1");
    }

    private static void steps() {
        Desk desk = Desk.started("signal s, u; route e env -> p with s, u; process p 1..1; var n: int; start; next a; state a; input s; next -; when n = 1; next -; none; n := 1; next -; end;", 1);
        ExchangeHouse x = desk.house;
        Desk.due("a start", x.instance(1, 6), 1);
        x.go(1);
        Desk.due("no step", x.instance(1, 6), 0);
        x.put(1, 1, 0, 0, 0);
        Desk.due("one that is lost", x.instance(1, 6), 3);
        x.go(1);
        x.put(0, 1, 0, 0, 0);
        Desk.due("one with a trans", x.instance(1, 6), 2);
        x.go(1);
        x.none(1, 0);
        Desk.due("a when", x.instance(1, 6), 4);
    }

    private static void outs() {
        Desk desk = Desk.started("signal s(int); route o p -> env with s; process p 1..1; var n: int; timer t; start; next a; state a; when n < 250; n := n + 1; output s(n); next -; end;", 1);
        ExchangeHouse x = desk.house;
        x.run(150);
        Desk.due("outs", x.count(12), 149);
        Desk.due("the eldest", x.out(0, 3), 1);
        Desk.due("the latest", x.out(148, 3), 149);
        Desk.due("none beyond", x.out(149, 3), -1);
        x.wait(5);
        x.run(1000);
        Desk.due("outs", x.count(12), 250);
        Desk.due("the latest 200", x.out(0, 3), 51);
        Desk.due("the latest", x.out(199, 3), 250);
        Desk.due("now then", x.out(0, 2), 0);
        Desk.due("now then", x.out(199, 2), 5);
        Desk.due("none beyond", x.out(200, 3), -1);
        Desk.due("none below", x.out(-1, 3), -1);
        Desk.due("another what", x.out(0, 6), -1);
        Desk.due("another what", x.out(0, -1), -1);
        Desk.due("events", x.count(13), 500);
        x.begin(1);
        Desk.due("a new run", x.out(0, 0), -1);
        Desk.due("a new run", x.count(12), 0);
    }

    private static void traceOfMany() {
        Desk desk = Desk.started("process p 1..1; start; next a; state a; when true; next b; state b; when true; next a; end; process q 2..2; start; stop; end;", 1);
        ExchangeHouse x = desk.house;
        Desk.due("steps", x.run(500), 500);
        // 3 made, 2 stopped, 498 moved: the latest 500 of 503.
        Desk.due("events", x.count(13), 500);
        Desk.due("the eldest is a move", desk.event(0).equals("5 1 -1 0"), true);
        Desk.due("then the stops", desk.event(1).equals("6 2 -1 0") && desk.event(2).equals("6 3 -1 0"), true);
        Desk.due("steps", x.run(2), 2);
        Desk.due("it moved on", desk.event(0).equals("6 3 -1 0"), true);
        Desk.due("none beyond", x.event(500, 0), -1);
    }

    private static void counts() {
        Desk desk = new Desk();
        ExchangeHouse x = desk.house;
        Desk.due("load", desk.load(TALK), 0);
        int[] system = {2, 3, 2, 0};
        for (int what = 0; what < 4; what++) {
            Desk.due("count " + what, x.count(what), system[what]);
        }
        for (int what = 4; what <= 18; what++) {
            Desk.due("count " + what + " without a run", x.count(what), 0);
        }
        x.begin(-9);
        x.run(4);
        x.feed(0, 0, 0, 0, 0);
        int[] run = {2, 2, 2, 0, 0, 0, 0, 4, 1, 12, 20, -9, 0, 0, 0};
        for (int what = 4; what <= 18; what++) {
            Desk.due("count " + what, x.count(what), run[what - 4]);
        }
        Desk.due("count 19", x.count(19), -1);
        Desk.due("count below", x.count(-1), -1);
        Desk.due("search", x.search(5), x.count(16));
        x.run(3);
        Desk.due("the search is still known", x.count(16) > 0, true);
        Desk.due("lost", x.count(7), 1);
        x.load(0);
        Desk.due("load", desk.load("signal s;"), 0);
        for (int what = 4; what <= 18; what++) {
            Desk.due("count " + what + " without a run", x.count(what), 0);
        }
    }

    private static void types() {
        Desk desk = new Desk();
        ExchangeHouse x = desk.house;
        Desk.due("load", desk.load("process p 0..7 (k: int); var a: int[8]; var b: bool; timer t; timer u; start; create p(1); stop; state x, y; state z, x; end; process q 3..3; start; stop; end;"), 0);
        int[] want = {3, 10, 2, 0, 7};
        int[] other = {0, 0, 0, 3, 3};
        for (int what = 0; what < 5; what++) {
            Desk.due("type 0, " + what, x.type(0, what), want[what]);
            Desk.due("type 1, " + what, x.type(1, what), other[what]);
        }
        Desk.due("another type", x.type(2, 0), -1);
        Desk.due("another type", x.type(-1, 0), -1);
        Desk.due("another what", x.type(0, 5), -1);
        Desk.due("another what", x.type(0, -1), -1);
    }
}
