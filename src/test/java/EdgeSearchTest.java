/** The boundaries of SEARCHING: n of 1 and of 200, a search that is CUT, what it leaves as it was, visits. */
public final class EdgeSearchTest {
    public static void main(String[] args) {
        oneState();
        twoHundred();
        justEnough();
        cutInTheMidst();
        refused();
        latest();
        notGoneThrough();
        atOnce();
        orderOfMoves();
        alikeOrNot();
        atTheLatestTime();
        nobody();
        largestStates();
        alikeInSums();
        ends();
        visits();
        Desk.close("EdgeSearchTest");
    }

    private static void tells(String what, ExchangeHouse x, int k, String want) {
        Desk.same(what + ", state " + k, Desk.row(0, 6, i -> x.state(k, i)), want);
    }

    /** n of 1: without a move, with one that leads to itself, with one that leads away. */
    private static void oneState() {
        Desk still = Desk.started("process p 1..1; start; next a; state a; end;", 1);
        still.house.run(1);
        Desk.due("one", still.house.search(1), 1);
        Desk.due("not cut", still.house.count(17), 0);
        Desk.due("no move", still.house.count(18), 0);
        tells("still", still.house, 0, "-1 -1 0 0 0 0 1");
        Desk.due("it has no move", still.house.first(0, 0, 0), 0);
        Desk.due("and no signal", still.house.first(1, 0, 0), -1);

        Desk round = Desk.started("process p 1..1; start; next a; state a; none; next -; end;", 1);
        round.house.run(1);
        round.house.none(1, 0);
        Desk.due("one", round.house.search(1), 1);
        Desk.due("not cut", round.house.count(17), 0);
        Desk.due("a move to itself", round.house.count(18), 1);
        tells("round", round.house, 0, "-1 -1 0 1 0 0 1");
        Desk.due("it has a move", round.house.first(0, 0, 0), -1);

        Desk away = Desk.started("process p 1..1; start; next a; state a; end;", 1);
        Desk.due("one", away.house.search(1), 1);
        Desk.due("cut", away.house.count(17), 1);
        Desk.due("found", away.house.count(16), 1);
        tells("away", away.house, 0, "-1 -1 0 -1 -1 -1 1");
        Desk.due("it was not gone through", away.house.first(0, 0, 0), -1);
        Desk.due("but it was found", away.house.first(4, 0, -1), 0);
        Desk.due("no other", away.house.first(4, 0, 0), -1);
        Desk.due("visit", away.house.visit(0), 1);
        Desk.due("no other", away.house.visit(1), 0);
    }

    /** A chain of n states behind the beginning. */
    private static Desk chain(int n) {
        return Desk.started("process p 1..1; var n: int; start; next a; state a; when n < " + (n - 1) + "; n := n + 1; next -; end;", 1);
    }

    private static void twoHundred() {
        Desk just = chain(199);
        Desk.due("just 200", just.house.search(200), 200);
        Desk.due("not cut", just.house.count(17), 0);
        Desk.due("moves", just.house.count(18), 199);
        tells("the last one", just.house, 199, "198 0 199 0 0 0 1");
        tells("no other", just.house, 200, "-1 -1 -1 -1 -1 -1 -1");
        Desk.due("without a move", just.house.first(0, 0, 0), 199);
        Desk more = chain(200);
        Desk.due("one more than 200", more.house.search(200), 200);
        Desk.due("cut", more.house.count(17), 1);
        tells("the last one", more.house, 199, "198 0 199 -1 -1 -1 1");
        tells("the one before", more.house, 198, "197 0 198 1 0 0 1");
        Desk.due("without a move", more.house.first(0, 0, 0), -1);
        Desk.due("visit the last one", more.house.visit(199), 1);
        Desk.due("it is as it was found", more.house.cell(1, 0), 198);
    }

    private static void justEnough() {
        Desk desk = chain(4);
        ExchangeHouse x = desk.house;
        int[] found = {1, 2, 3, 4, 5, 5, 5};
        for (int n = 1; n <= 7; n++) {
            Desk.due("by at most " + n, x.search(n), found[n - 1]);
            Desk.due("found", x.count(16), found[n - 1]);
            Desk.due("cut by " + n, x.count(17), n < 5 ? 1 : 0);
            Desk.due("the last one was gone through", x.state(found[n - 1] - 1, 3), n < 5 ? -1 : 0);
            Desk.due("no other", x.state(found[n - 1], 2), -1);
        }
    }

    /** State 0 has three moves: by the third one there would be too many. */
    private static void cutInTheMidst() {
        String text = "signal s; route r p -> q with s; process p 1..1; var n: int; start; next a; state a; none; output s to null; n := 1; next -; none; n := 2; next -; none; n := 3 / (n - n); next -; end; process q 0..1; start; create q; stop; end;";
        Desk desk = Desk.started(text, 1);
        ExchangeHouse x = desk.house;
        x.run(1);
        Desk.due("three", x.search(3), 3);
        Desk.due("cut", x.count(17), 1);
        tells("not gone through", x, 0, "-1 -1 0 -1 -1 -1 1");
        tells("found by its first move", x, 1, "0 0 1 -1 -1 -1 1");
        tells("found by its second move", x, 2, "0 1 1 -1 -1 -1 1");
        Desk.due("a lost signal counts only of one that was gone through", x.first(2, 0, 0), -1);
        Desk.due("so does an error", x.first(3, 0, 0), -1);
        Desk.due("four", x.search(4), 4);
        tells("gone through", x, 0, "-1 -1 0 3 1 1 1");
        tells("by its third move", x, 3, "0 2 1 0 0 0 0");
        Desk.due("not cut", x.count(17), 0);
        Desk.due("a lost signal", x.first(2, 0, 0), 0);
        Desk.due("an error", x.first(3, 0, 0), 0);
        Desk.due("all moves", x.count(18), 9);
    }

    private static void refused() {
        Desk desk = chain(4);
        ExchangeHouse x = desk.house;
        x.search(3);
        for (int n : new int[] {0, -1, 201, Integer.MIN_VALUE, Integer.MAX_VALUE}) {
            Desk.due("search " + n, x.search(n), -1);
            Desk.due("the latest search is left", x.count(16), 3);
            Desk.due("the latest search is left", x.count(17), 1);
            Desk.due("the latest search is left", x.state(2, 0), 1);
        }
        for (int k : new int[] {-1, 3, 200, Integer.MIN_VALUE, Integer.MAX_VALUE}) {
            Desk.due("visit " + k, x.visit(k), 0);
            Desk.due("state " + k, x.state(k, 2), -1);
        }
        for (int what : new int[] {-1, 7, Integer.MIN_VALUE, Integer.MAX_VALUE}) {
            Desk.due("state, what " + what, x.state(0, what), -1);
            Desk.due("first, what " + what, x.first(what, 0, 0), -1);
        }
        Desk.due("first, what 5", x.first(5, 0, 0), -1);
        for (int wrong : new int[] {-2, 1, 12, Integer.MIN_VALUE, Integer.MAX_VALUE}) {
            Desk.due("first, state " + wrong, x.first(4, 0, wrong), -1);
            Desk.due("first, type " + wrong, x.first(4, wrong, 0), -1);
        }
        Desk.due("the run is left", x.instance(1, 1), -1);
    }

    /** A search takes the place of the one before it; a begin, or a load, leaves none. */
    private static void latest() {
        Desk desk = chain(4);
        ExchangeHouse x = desk.house;
        Desk.due("all", x.search(9), 5);
        x.run(2);
        Desk.due("from the run as it is", x.search(9), 3);
        Desk.due("moves", x.count(18), 2);
        Desk.due("the first one", x.first(4, 0, 0), 0);
        Desk.due("none is at its beginning any more", x.first(4, 0, -1), -1);
        x.begin(1);
        Desk.same("none since begin", Desk.row(16, 18, x::count), "0 0 0");
        Desk.due("no state", x.state(0, 2), -1);
        Desk.due("no first", x.first(4, 0, -1), -1);
        Desk.due("no visit", x.visit(0), 0);
        x.search(9);
        Desk.due("a fault leaves it", desk.load("signal"), 1);
        Desk.due("a fault leaves it", x.count(16), 5);
        Desk.due("load", desk.load("signal s;"), 0);
        Desk.same("none without a run", Desk.row(16, 18, x::count), "0 0 0");
        Desk.due("no state", x.state(0, 2), -1);
        Desk.due("no visit", x.visit(0), -1);
        x.begin(1);
        Desk.due("none in the next run", x.state(0, 2), -1);
        Desk.due("none in the next run", x.visit(0), 0);
    }

    /** What is told of states that were not gone through: all but their moves. */
    private static void notGoneThrough() {
        Desk desk = Desk.started("signal s; route e env -> p with s; process p 1..1; var n: int; start; next a; state a; save s; when n = 0; n := 1; next b; state b; save s; end;", 1);
        ExchangeHouse x = desk.house;
        x.put(0, 1, 0, 0, 0);
        Desk.due("all", x.search(3), 3);
        Desk.due("the end, with a signal", x.first(1, 0, 0), 2);
        Desk.due("the end", x.first(0, 0, 0), 2);
        Desk.due("in state b", x.first(4, 0, 1), 2);
        Desk.due("two", x.search(2), 2);
        Desk.due("cut ahead of the end", x.first(1, 0, 0), -1);
        Desk.due("in state a", x.first(4, 0, 0), 1);
        Desk.due("in state b", x.first(4, 0, 1), -1);
    }

    /** A route without delay whose row is empty: at once; with a delay, of 0 too: by a move of its own. */
    private static void atOnce() {
        String text = "signal s; route r p -> q% with s; process p 1..1; start; output s; output s; next a; state a; end; process q 1..1; start; next a; state a; save s; end;";
        int[] found = {4, 8, 8};
        String[] delays = {"", " delay 0", " delay 3 .. 5"};
        for (int k = 0; k < 3; k++) {
            Desk desk = Desk.started(text.replace("%", delays[k]), 1);
            Desk.due("states with" + delays[k], desk.house.search(200), found[k]);
            desk.house.visit(desk.house.first(4, 0, 0));
            Desk.due("in the queue with" + delays[k], desk.house.instance(2, 2), k == 0 ? 2 : 0);
            Desk.due("on the way with" + delays[k], desk.house.way(0, 1, 0), k == 0 ? -1 : 0);
        }
        // More than six are lost here, too, and nothing is drawn.
        Desk seven = Desk.started("signal s; route r p -> env delay 1 .. 9 with s; process p 1..1; start; output s; output s; output s; output s; output s; output s; output s; next a; state a; end;", 8);
        Desk.due("states", seven.house.search(200), 8);
        tells("one is lost", seven.house, 0, "-1 -1 0 1 1 0 1");
        Desk.due("no draw", seven.house.count(15), 8);
        Desk.due("nothing out", seven.house.count(12), 0);
        Desk.due("nothing lost in the run", seven.house.count(7), 0);
    }

    /** Steps by pids, routes in order, timers by pids and in order, nones by pids and in the order of the text. */
    private static void orderOfMoves() {
        String text = "signal s, u; route b env -> p delay 1 with u; route a env -> p delay 1 with s; process p 2..2; var n: int; timer t; timer v; start; set v 5; set t 5; next z; "
            + "state z; save s, u, t, v; when n = 0; n := 1; next -; none; n := 2; next -; state *; none; n := 3; next -; end;";
        Desk desk = Desk.started(text, 1);
        ExchangeHouse x = desk.house;
        x.run(2);
        x.put(1, 1, 0, 0, 0);
        x.put(0, 2, 0, 0, 0);
        x.search(13);
        tells("all moves", x, 0, "-1 -1 0 12 0 0 2");
        String[] want = {"1 0 -1 -1", "0 1 -1 -1", "0 0 1 -1", "0 0 -1 0", "0 0 100 -1", "0 0 101 -1", "0 0 -1 100", "0 0 -1 101", "2 0 -1 -1", "3 0 -1 -1", "0 2 -1 -1", "0 3 -1 -1"};
        for (int k = 1; k <= 12; k++) {
            Desk.due("visit", x.visit(k), 1);
            Desk.same("move " + (k - 1), x.cell(1, 0) + " " + x.cell(2, 0) + " " + x.queued(1, 0, 0) + " " + x.queued(2, 0, 0), want[k - 1]);
            Desk.due("by which move", x.state(k, 1), k - 1);
        }
    }

    /** Two states that differ in one thing are two. */
    private static void alikeOrNot() {
        String head = "signal s(int), u; route r p -> q delay 1 with s; route o p -> q with s, u; process p 1..1; var n: int; timer t; timer v; start; next a; state a; ";
        String tail = "state b; end; process q 1..2; start; next a; state a; save *; end; process k 0..1; start; create k; stop; end;";
        // By one none each the same thing is done, so that the sender is self in all of them.
        String[] once = {"n := 1; next -;", "next b;", "set t 1;next -;", "set v 1; next -;", "output s(1) via r; next -;", "output s(2) via r; next -;", "output s(1) via o; next -;", "output u via o; next -;", "create k; next -;", "stop;"};
        StringBuilder text = new StringBuilder(head);
        for (String act : once) {
            text.append("none; ").append(act).append(' ');
        }
        Desk desk = Desk.started(text + tail, 1);
        ExchangeHouse x = desk.house;
        x.run(2);
        Desk.due("one for each", x.search(11), 11);
        Desk.due("each is found from the first", x.state(10, 0), 0);
        Desk.due("by the last move", x.state(10, 1), 9);
        // What is not told apart: the times, and what came.
        Desk same = Desk.started("signal s; route r p -> p delay 1 .. 9 with s; process p 1..1; timer t; start; next a; state a; none; set t 1; next b; none; set t 2; next b; none; reset t; set t 9; next b; "
            + "none; set t 1; set t 1; next a; state b; end;", 1);
        same.house.run(1);
        same.house.wait(5);
        Desk.due("at first, and in each state with the timer, with its signal, without both", same.house.search(50), 7);
        Desk.due("the second none leads to no new one", same.house.state(2, 1), 3);
    }

    private static void atTheLatestTime() {
        Desk desk = Desk.started("process p 1..1; var n: int; timer t; start; set t 999999999 * 3; next a; state a; input t; n := now; set t 5; next -; end;", 1);
        ExchangeHouse x = desk.house;
        x.run(1);
        Desk.due("what went round is below 0", x.timer(1, 0), 0);
        Desk now = Desk.started("process p 1..1; var n: int; timer t; start; set t 999999999 + 999999999 + 5; next a; state a; input t; n := now; set t 5; next -; end;", 1);
        now.house.run(2);
        Desk.due("now", now.house.count(4), 2000000000);
        Desk.due("two states: set, and come", now.house.search(9), 2);
        now.house.visit(1);
        Desk.due("the signal is there", now.house.queued(1, 0, 0), 100);
        Desk.due("now", now.house.count(4), 2000000000);
        now.house.visit(0);
        Desk.due("timers are set to now", now.house.timer(1, 0), 2000000000);
    }

    private static void nobody() {
        Desk desk = Desk.started("process p 0..1; start; create p; stop; end;", 1);
        ExchangeHouse x = desk.house;
        Desk.due("one state", x.search(1), 1);
        Desk.due("not cut", x.count(17), 0);
        tells("nobody", x, 0, "-1 -1 0 0 0 0 0");
        Desk.due("no move", x.first(0, 0, 0), 0);
        Desk.due("no signal", x.first(1, 0, 0), -1);
        Desk.due("visit", x.visit(0), 1);
        Desk.due("nobody", x.count(5), 0);
    }

    /** Twelve instances with sixteen cells and full queues, ten full routes. */
    private static void largestStates() {
        StringBuilder text = new StringBuilder("signal s0(int,int,int)");
        for (int i = 1; i < 10; i++) {
            text.append(",s").append(i).append("(int,int,int)");
        }
        text.append(";").append(Desk.repeat("route r% env->p delay 1 with s%;", 10));
        text.append("process p 12..12;var a:int[8];var b:int[8];timer t;timer u;timer v;start;a[7]:=7;b[7]:=15;next z;state z;save *;none;b[0]:=b[0]+1;set t 1;set v 1;next -;end;");
        Desk desk = Desk.started(text.toString(), 1);
        ExchangeHouse x = desk.house;
        x.run(12);
        for (int pid = 1; pid <= 12; pid++) {
            for (int i = 0; i < 6; i++) {
                x.put(0, pid, i, pid, 100 * i);
            }
            x.wait(1);
            x.go(0);
        }
        for (int r = 0; r < 10; r++) {
            for (int i = 0; i < 6; i++) {
                x.put(r, r + 1, i, r, -i);
            }
        }
        Desk.due("nothing lost so far", x.count(7), 0);
        Desk.due("states", x.search(200), 200);
        Desk.due("cut", x.count(17), 1);
        Desk.due("each route's first is lost", x.state(0, 4), 10);
        Desk.due("ten routes, twelve nones", x.state(0, 3), 22);
        Desk.due("search again", x.search(200), 200);
        Desk.due("visit", x.visit(199), 1);
        Desk.due("alive", x.count(5), 12);
        Desk.due("cell", x.cell(12, 7), 7);
        Desk.due("cell", x.cell(12, 15), 15);
        Desk.same("queue", Desk.row(0, 4, what -> x.queued(12, 5, what)), "0 0 5 12 500");
        Desk.due("visit", x.visit(0), 1);
        Desk.same("the last on the last route", Desk.row(0, 6, what -> x.way(9, 5, what)), "9 0 10 13 5 9 -5".replace("13", Integer.toString(x.count(4))));
    }

    /** Numbers that differ, though their sum by some weights is the same. */
    private static void alikeInSums() {
        StringBuilder text = new StringBuilder("process p 1..1; var x: int; var y: int; start; next a; state a; ");
        int[] weights = {2, 3, 7, 10, 17, 29, 30, 31, 32, 33, 37, 53, 64, 127, 131, 256, 257, 1000, 8191, 65536, 65599};
        text.append("none; x := 1; y := 0; next b; ");
        for (int weight : weights) {
            text.append("none; x := 0; y := ").append(weight).append("; next b; ");
        }
        text.append("none; x := 0; y := 1; next b; none; x := 1; y := 1; next b; state b; end;");
        Desk desk = Desk.started(text.toString(), 1);
        desk.house.run(1);
        Desk.due("one for each", desk.house.search(200), 1 + 3 + weights.length);
    }

    /** Of two ends the first has no signal, or has one. */
    private static void ends() {
        for (int k = 0; k < 2; k++) {
            Desk desk = Desk.started("signal s, u; route e env -> p with s, u; process p 1..1; start; next a; state a; save s; none; next b; none; next c; state b; save " + (k == 0 ? "u" : "s") + "; state c; save " + (k == 0 ? "s" : "u") + "; end;", 1);
            ExchangeHouse x = desk.house;
            x.run(1);
            x.put(0, 1, 0, 0, 0);
            // In one of b and c the signal is kept, in the other it is lost by a step.
            Desk.due("at first, b, c, and where it is lost", x.search(9), 4);
            Desk.due("the first end", x.first(0, 0, 0), k == 0 ? 2 : 1);
            Desk.due("the first end with a signal", x.first(1, 0, 0), k == 0 ? 2 : 1);
            Desk.due("lost", x.first(2, 0, 0), k == 0 ? 1 : 2);
            Desk.due("the other end has none", x.state(3, 3), 0);
        }
        Desk desk = Desk.started("signal s; route e env -> p with s; process p 1..1; start; next a; state a; save s; none; stop; none; next b; state b; save s; end;", 1);
        ExchangeHouse x = desk.house;
        x.run(1);
        x.put(0, 1, 0, 0, 0);
        Desk.due("states", x.search(9), 3);
        Desk.due("the first end is nobody", x.first(0, 0, 0), 1);
        Desk.due("the first end with a signal", x.first(1, 0, 0), 2);
        Desk.due("in state b", x.first(4, 0, 1), 2);
        Desk.due("again", x.first(1, 0, 0), 2);
        Desk back = Desk.started("signal s; route e env -> p with s; process p 1..1; start; next a; state a; save s; none; next b; none; stop; state b; save s; end;", 1);
        back.house.run(1);
        back.house.put(0, 1, 0, 0, 0);
        Desk.due("states", back.house.search(9), 3);
        Desk.due("the first end has a signal", back.house.first(1, 0, 0), 1);
    }

    private static void visits() {
        Desk desk = Desk.started("signal s; route r p -> p delay 9 with s; process p 2..2; var n: int; timer t; start; set t 7; output s; next a; state a; input s; n := 1; next -; none; stop; end;", 3);
        ExchangeHouse x = desk.house;
        Desk.due("search", x.search(30), 30);
        x.run(2);
        x.wait(4);
        x.none(1, 0);
        String counts = Desk.row(6, 15, x::count);
        int[] alive = {2, 2, 2};
        for (int k = 0; k < 3; k++) {
            Desk.due("visit " + k, x.visit(k), 1);
            Desk.due("alive in " + k, x.count(5), alive[k]);
            Desk.same("counts, the trace, the tape, the seed stay", Desk.row(6, 15, x::count), counts);
            Desk.due("now stays", x.count(4), 4);
        }
        Desk.due("visit", x.visit(1), 1);
        Desk.due("on the way: now", x.way(0, 0, 3), 4);
        Desk.due("set: now", x.timer(1, 0), 4);
        Desk.due("not set", x.timer(2, 0), -1);
        x.wait(10);
        Desk.due("visit at another time", x.visit(1), 1);
        Desk.due("on the way: now", x.way(0, 0, 3), 14);
        Desk.due("set: now", x.timer(1, 0), 14);
        Desk.due("all comes by the next call", x.go(9), 0);
        Desk.due("the signal, then the timer", x.queued(1, 0, 0) * 1000 + x.queued(1, 1, 0), 100);
        Desk.due("a state that is none", x.visit(30), 0);
        Desk.due("leaves the run", x.instance(1, 2), 2);
        Desk.due("the search stays", x.count(16), 30);
    }
}
