/** Promises 22 to 25: search, state, first, visit. */
public final class SearchTest {
    /** One counter that goes up to 3 by itself, or stops. */
    private static final String COUNTER = "process p 1..1; var n: int; start; next a; state a; when n < 3; n := n + 1; next -; none; stop; end;";

    public static void main(String[] args) {
        wrongCalls();
        chain();
        cut();
        movesInOrder();
        lostAndErrors();
        alike();
        leavesNoTrace();
        visiting();
        afterBegin();
        Desk.close("SearchTest");
    }

    private static void wrongCalls() {
        Desk desk = Desk.started(COUNTER, 1);
        ExchangeHouse x = desk.house;
        Desk.due("state ahead of a search", x.state(0, 0), -1);
        Desk.due("first ahead of a search", x.first(4, 0, -1), -1);
        Desk.due("visit ahead of a search", x.visit(0), 0);
        Desk.due("none", x.search(0), -1);
        Desk.due("less", x.search(-1), -1);
        Desk.due("too many", x.search(201), -1);
        Desk.due("all", x.search(200), 6);
        Desk.due("a wrong call leaves the search", x.search(0), -1);
        Desk.due("found", x.count(16), 6);
        Desk.due("another state", x.state(6, 0), -1);
        Desk.due("another state", x.state(-1, 0), -1);
        Desk.due("another what", x.state(0, 7), -1);
        Desk.due("another what", x.state(0, -1), -1);
        Desk.due("another what", x.first(5, 0, 0), -1);
        Desk.due("another what", x.first(-1, 0, 0), -1);
        Desk.due("another state", x.visit(6), 0);
        Desk.due("another state", x.visit(-1), 0);
    }

    private static void row(ExchangeHouse x, int k, int... want) {
        for (int what = 0; what < want.length; what++) {
            Desk.due("state " + k + ", " + what, x.state(k, what), want[what]);
        }
    }

    private static void chain() {
        Desk desk = Desk.started(COUNTER, 1);
        ExchangeHouse x = desk.house;
        // The beginning, four numbers, and nobody: one state, whoever stopped.
        Desk.due("found", x.search(200), 6);
        row(x, 0, -1, -1, 0, 1, 0, 0, 1);
        row(x, 1, 0, 0, 1, 2, 0, 0, 1);
        row(x, 2, 1, 0, 2, 2, 0, 0, 1);
        row(x, 3, 1, 1, 2, 0, 0, 0, 0);
        row(x, 4, 2, 0, 3, 2, 0, 0, 1);
        row(x, 5, 4, 0, 4, 1, 0, 0, 1);
        Desk.due("moves", x.count(18), 8);
        Desk.due("no move", x.first(0, 0, 0), 3);
    }

    private static void cut() {
        Desk desk = Desk.started("process p 1..1; var n: int; start; next a; state a; when n < 3; n := n + 1; next -; end;", 1);
        ExchangeHouse x = desk.house;
        Desk.due("all", x.search(5), 5);
        Desk.due("not cut", x.count(17), 0);
        Desk.due("moves", x.count(18), 4);
        row(x, 0, -1, -1, 0, 1, 0, 0, 1);
        row(x, 1, 0, 0, 1, 1, 0, 0, 1);
        row(x, 4, 3, 0, 4, 0, 0, 0, 1);
        Desk.due("no move", x.first(0, 0, 0), 4);
        Desk.due("no move, and a signal", x.first(1, 0, 0), -1);
        Desk.due("in its state", x.first(4, 0, 0), 1);
        Desk.due("at its beginning", x.first(4, 0, -1), 0);
        Desk.due("another state", x.first(4, 0, 1), -1);
        Desk.due("another type", x.first(4, 1, 0), -1);
        Desk.due("four of them", x.search(4), 4);
        Desk.due("cut", x.count(17), 1);
        Desk.due("the move that was too many was looked at", x.count(18), 4);
        row(x, 2, 1, 0, 2, 1, 0, 0, 1);
        row(x, 3, 2, 0, 3, -1, -1, -1, 1);
        Desk.due("none that was gone through is without moves", x.first(0, 0, 0), -1);
        Desk.due("one", x.search(1), 1);
        row(x, 0, -1, -1, 0, -1, -1, -1, 1);
        Desk.due("the rest is gone", x.state(1, 0), -1);
    }

    private static void movesInOrder() {
        // Of state 1 (all begun): p1's step, the route's first, the timer, then the nones.
        Desk desk = Desk.started("signal s, u; route r q -> p delay 7 with s; route e env -> p with u; "
            + "process p 1..1; var n: int; timer t; start; set t 900; next a; state a; input u; n := 1; next -; input s; n := 2; next -; input t; n := 3; next -; none; n := 4; next -; none; n := 5; next -; end; "
            + "process q 1..1; start; output s; next a; state a; none; stop; end;", 1);
        ExchangeHouse x = desk.house;
        x.run(2);
        x.put(1, 1, 0, 0, 0);
        Desk.due("cut behind the first state's moves", x.search(7), 7);
        row(x, 0, -1, -1, 0, 6, 0, 0, 2);
        for (int k = 1; k < 7; k++) {
            row(x, k, 0, k - 1, 1);
        }
        Desk.due("visit", x.visit(1), 1);
        Desk.due("a step", x.cell(1, 0), 1);
        Desk.due("visit", x.visit(2), 1);
        Desk.due("the route's first signal", x.queued(1, 1, 0), 0);
        Desk.due("visit", x.visit(3), 1);
        Desk.due("the timer", x.queued(1, 1, 0), 100);
        Desk.due("visit", x.visit(4), 1);
        Desk.due("the first none", x.cell(1, 0), 4);
        Desk.due("sender is self", x.instance(1, 3), 1);
        Desk.due("visit", x.visit(5), 1);
        Desk.due("the second none", x.cell(1, 0), 5);
        Desk.due("visit", x.visit(6), 1);
        Desk.due("the other's none", x.count(5), 1);
        Desk.due("visit", x.visit(0), 1);
        Desk.due("the run as it was", x.way(0, 0, 0), 0);
    }

    private static void lostAndErrors() {
        Desk desk = Desk.started("signal s; route r p -> k delay 1 with s; process p 1..1; start; output s; next a; state a; end; "
            + "process k 1..1; var n: int; start; next a; state a; none; stop; none; n := 1 / n; next -; end;", 1);
        ExchangeHouse x = desk.house;
        x.run(2);
        // 0: s on the way. 1: s in the queue. 2: k stopped. By the error it is as by the stop.
        Desk.due("found", x.search(50), 5);
        row(x, 0, -1, -1, 0, 3, 0, 1, 2);
        row(x, 1, 0, 0, 1, 3, 3, 1, 2);
        row(x, 2, 0, 1, 1, 1, 1, 0, 1);
        row(x, 3, 1, 0, 2, 2, 0, 1, 2);
        row(x, 4, 1, 1, 2, 0, 0, 0, 1);
        Desk.due("moves", x.count(18), 9);
        Desk.due("a lost signal", x.first(2, 0, 0), 1);
        Desk.due("an error", x.first(3, 0, 0), 0);
        Desk.due("no move", x.first(0, 0, 0), 4);
        Desk quiet = Desk.started("signal s; route e env -> p with s; process p 1..1; start; next a; state a; save s; end;", 1);
        quiet.house.run(1);
        quiet.house.put(0, 1, 0, 0, 0);
        Desk.due("one", quiet.house.search(9), 1);
        Desk.due("no move, and a signal", quiet.house.first(1, 0, 0), 0);
        Desk.due("no loss", quiet.house.first(2, 0, 0), -1);
        Desk.due("no error", quiet.house.first(3, 0, 0), -1);
    }

    private static void alike() {
        // Times aside a timer that is set again is the same; a pid more is not.
        Desk timer = Desk.started("process p 1..1; timer t; start; set t 5; next a; state a; none; set t 7; next -; end;", 1);
        timer.house.run(1);
        Desk.due("the timer, its coming, the sender", timer.house.search(50), 5);
        Desk maker = Desk.started("process p 1..1; start; next a; state a; none; create q; next -; end; process q 0..1; start; stop; end;", 1);
        maker.house.run(1);
        Desk.due("it never ends", maker.house.search(200), 200);
        Desk.due("cut", maker.house.count(17), 1);
        Desk now = Desk.started("process p 1..1; var n: int; timer t; start; set t 100; next a; state a; input t; n := now; next b; state b; end;", 1);
        now.house.run(1);
        now.house.wait(3);
        Desk.due("found", now.house.search(9), 3);
        now.house.visit(2);
        Desk.due("now stays as it is", now.house.cell(1, 0), 3);
    }

    private static void leavesNoTrace() {
        Desk desk = Desk.started("signal s, o; route r p -> p delay 1 .. 9 with s; route w p -> env with o; process p 1..1; timer t; start; set t 50; output s; next a; state a; input s; output s; output o; next -; none; stop; end;", 77);
        ExchangeHouse x = desk.house;
        x.run(1);
        int[] before = new int[12];
        for (int what = 4; what < 16; what++) {
            before[what - 4] = x.count(what);
        }
        int when = x.way(0, 0, 3);
        Desk.due("search", x.search(100) > 1, true);
        for (int what = 4; what < 16; what++) {
            Desk.due("count " + what + " stays", x.count(what), before[what - 4]);
        }
        Desk.due("the way stays", x.way(0, 0, 3), when);
        Desk.due("the timer stays", x.timer(1, 0), 50);
        Desk.due("nothing was out", x.out(0, 0), -1);
        Desk.due("the run goes on", x.run(1), 1);
        Desk.due("now", x.count(4), when);
    }

    private static void visiting() {
        Desk desk = Desk.started("signal s(int); route r p -> q delay 40 with s; process p 1..1; timer t; start; set t 30; output s(8); next a; state a; input t; stop; end; "
            + "process q 2..2; var n: int; start; next a; state a; input s(n); create p; next -; end;", 5);
        ExchangeHouse x = desk.house;
        Desk.due("search", x.search(200) > 10, true);
        Desk.due("steps", x.run(3), 3);
        x.wait(11);
        int seed = x.count(15);
        int events = x.count(13);
        Desk.due("a state in which p began", x.first(4, 0, 0), 1);
        Desk.due("visit", x.visit(1), 1);
        Desk.due("now stays", x.count(4), 11);
        Desk.due("what is on the way will arrive now", x.way(0, 0, 3), 11);
        Desk.due("timers are set to now", x.timer(1, 0), 11);
        Desk.due("the others are at their beginning", x.instance(3, 1), -1);
        Desk.due("counts stay", x.count(11), 3);
        Desk.due("the trace stays", x.count(13), events);
        Desk.due("the seed stays", x.count(15), seed);
        Desk.due("the search stays", x.state(1, 2), 1);
        x.go(3);
        Desk.due("visit another time", x.visit(1), 1);
        Desk.due("the one that went last is none: the first ready one goes", x.run(1), 1);
        Desk.due("that is p, whose timer came", x.instance(1, 0), -1);
        Desk.due("made stays", x.count(6), 3);
        Desk.due("visit the first", x.visit(0), 1);
        Desk.due("all are there", x.count(5), 3);
        Desk.due("all at their beginning", x.instance(1, 1), -1);
        Desk.due("nothing on the way", x.way(0, 0, 0), -1);
        Desk.due("nothing is set", x.timer(1, 0), -1);
        parts();
        lastIsNone();
        // The next pid is the state's, the count of those made is the run's.
        Desk maker = Desk.started("process p 1..1; start; next a; state a; none; create q; next -; end; process q 0..5; start; stop; end;", 1);
        maker.house.run(1);
        maker.house.search(3);
        maker.house.none(1, 0);
        maker.house.none(1, 0);
        Desk.due("made", maker.house.count(6), 3);
        maker.house.visit(0);
        Desk.due("made stays", maker.house.count(6), 3);
        maker.house.none(1, 0);
        Desk.due("the pid is used again", maker.house.alive(1), 2);
        Desk.due("made", maker.house.count(6), 4);
    }

    /** All parts of instances come back by a visit. */
    private static void parts() {
        Desk desk = Desk.started("signal s(int, bool, pid); route r m -> k with s; process m 1..1; start; create k(4, true); output s(1, true, self); next a; state a; none; stop; end; "
            + "process k 0..2 (i: int, b: bool); var q: pid; timer t; timer u; start; set u 5; create k(1, false); next a; state a; save s; end;", 1);
        ExchangeHouse x = desk.house;
        x.run(3);
        Desk.due("search", x.search(100) > 1, true);
        x.begin(1);
        x.run(3);
        Desk.due("search", x.search(100) > 1, true);
        x.none(1, 0);
        Desk.due("stopped", x.count(5), 2);
        Desk.due("visit", x.visit(0), 1);
        int[][] want = {{0, 0, 0, 0, 0, 2, 0}, {1, 0, 1, 0, 1, 3, 0}, {1, 0, 0, 0, 2, 0, 0}};
        for (int pid = 1; pid <= 3; pid++) {
            for (int what = 0; what < 7; what++) {
                Desk.due("instance " + pid + ", " + what, x.instance(pid, what), want[pid - 1][what]);
            }
        }
        Desk.due("cells", x.cell(2, 0) * 100 + x.cell(2, 1) * 10 + x.cell(2, 2), 410);
        Desk.due("cells", x.cell(3, 0) * 100 + x.cell(3, 1) * 10 + x.cell(3, 2), 100);
        Desk.due("timers", x.timer(2, 0) * 10 + x.timer(2, 1), -10);
        Desk.due("queue", x.queued(2, 0, 1) * 1000 + x.queued(2, 0, 2) * 100 + x.queued(2, 0, 3) * 10 + x.queued(2, 0, 4), 1111);
    }

    private static void lastIsNone() {
        Desk desk = Desk.started("process p 3..3; var n: int; start; next a; state a; when n < 9; n := n + 1; next -; end;", 1);
        ExchangeHouse x = desk.house;
        x.run(3);
        x.search(2);
        Desk.due("the second one went last", x.run(2), 2);
        x.visit(0);
        x.run(1);
        Desk.due("the first one goes again", x.cell(1, 0), 1);
        Desk.due("not the third one", x.cell(3, 0), 0);
    }

    private static void afterBegin() {
        Desk desk = Desk.started(COUNTER, 1);
        ExchangeHouse x = desk.house;
        x.search(20);
        x.begin(1);
        Desk.due("no search", x.count(16), 0);
        Desk.due("no search", x.count(18), 0);
        Desk.due("no state", x.state(0, 2), -1);
        Desk.due("no visit", x.visit(0), 0);
        Desk.due("load", desk.load(COUNTER), 0);
        Desk.due("no run", x.search(5), -1);
        Desk.due("no run", x.visit(0), -1);
    }
}
