/** The boundaries of TWICE, NAME, SORT and FORM: what is just good, what is just not, and which of two is told. */
public final class EdgeJudgeTest {
    private static final String P = "process p 1..1; ";
    private static final String S = "signal s, i(int), m(int, bool, pid); ";
    private static final String HEAD = S + P + "var x: int; var y: bool; var z: pid; var a: int[3]; timer t; start; ";
    private static final String STATE = HEAD + "stop; state e; ";
    private static final String TAIL = " stop; end;";

    public static void main(String[] args) {
        twiceOfItems();
        twiceInTypes();
        twiceInIns();
        timersAndSignals();
        numbersOfValues();
        countsAndBounds();
        statesThatHaveIt();
        routesOfVia();
        endsOfParts();
        nextOfStarts();
        onePlace();
        firstByPlace();
        whatIsNotAsked();
        told();
        wholeExpressions();
        manyDecides();
        Desk.close("EdgeJudgeTest");
    }

    private static void twiceOfItems() {
        String[] items = {"signal %n;", "route %n env -> env with k;", "process %n 1..1; start; stop; end;"};
        for (String first : items) {
            for (String second : items) {
                Desk.fault(3, "signal k; " + first.replace("%", "") + " " + second.replace("%", "@"));
                Desk.fault(3, "signal k; " + first.replace("%", "") + " " + second.replace("%", "@") + " " + first.replace("%", ""));
                Desk.good("signal k; " + first.replace("%", "") + " " + second.replace("%", "o"));
            }
        }
    }

    private static void twiceInTypes() {
        String rest = " start; stop; end; ";
        Desk.fault(3, "process p 1..1 (n: int, k: int, @n: bool);" + rest);
        Desk.fault(3, "process p 1..1 (k: int, n: int, @n: bool);" + rest);
        Desk.fault(3, "process p 1..1 (n: int); var @n: int[2];" + rest);
        Desk.fault(3, "process p 1..1 (n: int); timer @n;" + rest);
        Desk.fault(3, P + "var n: int; var k: int; var @n: int; var k: int;" + rest);
        Desk.fault(3, P + "var n: int; timer @n;" + rest);
        Desk.fault(3, P + "timer n; var @n: int;" + rest);
        Desk.fault(3, P + "timer n; timer k; timer @n;" + rest);
        Desk.fault(3, P + "start; n: k: @n: stop; end;");
        Desk.fault(3, P + "var x: int; start; n: decide x; 1: @n: stop; end; stop; end;");
        Desk.fault(3, P + "start; n: stop; state z; none; stop; none; @n: stop; end;");
        // Of another type, or of another kind, a name is free.
        String type = " 1..1 (n: int); var k: int; timer t; start; l: stop; state n, k, l, t, q; none; n: k: t: stop; end; ";
        Desk.good("process p" + type + "process q" + type + "signal n, k, l;");
        Desk.good(P + "timer r; var p: int; start; r: p: stop; state r, p; end; route r p -> p with s; signal s;");
    }

    private static void twiceInIns() {
        String three = "signal m(int, int, int), n(int, int); " + P + "var x: int; var y: int; var w: int; start; stop; state e; ";
        Desk.fault(3, three + "input m(x, @x, y);" + TAIL);
        Desk.fault(3, three + "input m(x, y, @x);" + TAIL);
        Desk.fault(3, three + "input m(x, y, @y);" + TAIL);
        Desk.fault(3, three + "input n(y, @y);" + TAIL);
        Desk.good(three + "input m(x, y, w), n(x, y);" + TAIL);
        Desk.good(three + "input n(x, y); stop; input m(y, x, w);" + TAIL);
        Desk.fault(3, three + "input m(x, y, w), n(x, @x);" + TAIL);
    }

    private static void timersAndSignals() {
        Desk.fault(3, "signal t; " + P + "timer @t; start; stop; end;");
        Desk.fault(3, P + "timer @t; start; stop; end; signal t;");
        Desk.fault(3, P + "timer @t; start; stop; end; signal a, t(int);");
        Desk.fault(3, P + "timer u; timer @t; start; stop; end; process q 1..1; timer t; start; stop; end; signal t;");
        Desk.good(P + "timer t; start; stop; end; process q 1..1; timer t; start; stop; end; signal u;");
    }

    private static void numbersOfValues() {
        Desk.good(HEAD + "output s; output i(1); output m(1, y, z);" + TAIL);
        for (String bad : new String[] {"s(1)", "s(1, 2)", "s(1, 2, 3)", "i", "i(1, 2)", "i(1, 2, 3)", "m", "m(1)", "m(1, true)"}) {
            Desk.fault(5, HEAD + "output @" + bad + ";" + TAIL);
        }
        String maker = "process p 1..1 (k: int, b: bool); start; ";
        Desk.good(maker + "create p(1, true);" + TAIL);
        for (String bad : new String[] {"p", "p(1)", "p(1, true, 2)"}) {
            Desk.fault(5, maker + "create @" + bad + ";" + TAIL);
        }
        Desk.good(P + "start; create p;" + TAIL);
        Desk.fault(5, P + "start; create @p(1);" + TAIL);
        Desk.good(STATE + "input s, i, m, t;" + TAIL);
        Desk.good(STATE + "input s, i(x), m(x, y, z), t;" + TAIL);
        for (String bad : new String[] {"s(x)", "t(x)", "i(x, y)", "m(x)", "m(x, y)"}) {
            Desk.fault(5, STATE + "input @" + bad + ";" + TAIL);
        }
    }

    private static void countsAndBounds() {
        Desk.good("process p 0..0; start; stop; end;");
        Desk.good("process p 200..200; start; stop; end;");
        Desk.good("process p 199..200; start; stop; end;");
        Desk.fault(6, "process p 200..@199; start; stop; end;");
        Desk.fault(6, "process p 1..@0; start; stop; end;");
        Desk.good(S + "route r env -> env delay 0 .. 0 with s;");
        Desk.good(S + "route r env -> env delay 7 .. 7 with s;");
        Desk.fault(6, S + "route r env -> env delay 1 .. @0 with s;");
        Desk.fault(6, S + "route r env -> env delay 200 .. @199 with s;");
        Desk.good(HEAD + "decide x; 0 .. 0, -1 .. -1, -1 .. 0, -2 .. 1: end;" + TAIL);
        Desk.good(HEAD + "decide x; 0 .. - 0, - 0 .. 0: end;" + TAIL);
        Desk.fault(6, HEAD + "decide x; 1 .. @0: end;" + TAIL);
        Desk.fault(6, HEAD + "decide x; 0 .. @- 1: end;" + TAIL);
        Desk.fault(6, HEAD + "decide x; -1 .. @-2: end;" + TAIL);
        Desk.fault(6, HEAD + "decide x; 5: 6, 7 .. @6: end;" + TAIL);
        Desk.fault(6, HEAD + "decide x; -999999999 .. 999999999, 999999999 .. @-999999999: end;" + TAIL);
    }

    private static void statesThatHaveIt() {
        Desk.good(STATE + "input s; stop; save i; state f; input i; stop; save s;" + " end;");
        for (String both : new String[] {"input s; stop; input @s; stop;", "input s; stop; save @s;", "save s; input @s; stop;", "save s; save @s;",
            "save s, @s;", "input s, @s; stop;", "input s if y; stop; input @s if not y; stop;", "input i(x); stop; input @i; stop;",
            "input t; stop; save @t;", "save t, @t;", "input *; stop; input @*; stop;", "input *; stop; save @*;", "save *; input @*; stop;", "save *; save @*;",
            "input *, @*; stop;"}) {
            Desk.fault(6, STATE + both + " end;");
            Desk.fault(6, STATE + "state f, e; " + both + " end;");
            Desk.fault(6, HEAD + "stop; state f; state *; " + both + " end;");
            // In states that are not the same it is good.
            int second = Math.max(both.indexOf("input @"), both.indexOf("save @"));
            if (second > 0) {
                String parted = both.substring(0, second) + "state f; " + both.substring(second).replace("@", "");
                Desk.good(STATE + parted + " end;");
            }
        }
        Desk.good(STATE + "input s, t; stop; save *; end;");
        Desk.good(STATE + "input *; stop; save s, t; end;");
        // state * tells the states that come later, too.
        Desk.fault(6, HEAD + "stop; state *; input s; stop; state e; save @s; end;");
        Desk.fault(6, HEAD + "stop; state *; input s; stop; state e; save t; state f; save @s; end;");
        Desk.fault(6, HEAD + "stop; state e; input s; stop; state f; state *; save @s; end;");
        Desk.fault(6, HEAD + "stop; state e; input s; stop; state f; input s; stop; state *; save @s; end;");
        Desk.fault(6, HEAD + "stop; state a, b, c; input s; stop; state d; input s; stop; state q, c; save i, @s; end;");
        // Other types' states are others.
        Desk.good(STATE + "input s; stop; end; process q 1..1; start; stop; state e; input s; stop; end;");
    }

    private static void routesOfVia() {
        String head = S + "route a p -> q with s; route b q -> p with s; route c env -> p with s; route d p -> env with i; route e p -> p with i, s; ";
        String q = " process q 1..1; start; stop; end;";
        Desk.good(head + P + "start; output s via a; output i(1) via d; output s via e; output i(1) via e;" + TAIL + q);
        Desk.fault(6, head + P + "start; output s via @b;" + TAIL + q);
        Desk.fault(6, head + P + "start; output s via @c;" + TAIL + q);
        Desk.fault(6, head + P + "start; output s via @d;" + TAIL + q);
        Desk.fault(6, head + P + "start; output i(1) via @a;" + TAIL + q);
        Desk.fault(6, head + P + "start; output m(1, true, null) via @e;" + TAIL + q);
        Desk.fault(4, head + P + "start; output s via @p;" + TAIL + q);
        // If the signal is none, that is what is told; a route told later is good, too.
        Desk.fault(4, head + P + "start; output @w via d;" + TAIL + q);
        Desk.good(P + "start; output s via a;" + TAIL + " route a p -> env with s; signal s;");
    }

    private static void endsOfParts() {
        Desk.fault(6, P + "start; # note\n # another\n @end;");
        Desk.fault(6, P + "start; @state e; end;");
        Desk.good(P + "start; next e; state e; end;");
        for (String good : new String[] {"stop;", "join l;", "x := 1; stop;", "decide x; 1: stop; else: stop; end;", "decide x; 1: stop; 2: join l; else: next e; end;",
            "decide x; 1: decide y; true: stop; else: stop; end; else: x := 2; stop; end;", "decide x; 1: end; stop;"}) {
            Desk.good(HEAD + "l: x := 0; next e; state e; none; " + good + " end;");
        }
        for (String bad : new String[] {"", "x := 1;", "decide x; 1: stop; end;", "decide x; 1: else: stop; end;", "decide x; 1: stop; else: end;",
            "decide x; 1: stop; 2: else: stop; end;", "decide x; 1: stop; else: x := 1; end;", "decide x; 1: stop; else: stop; end; x := 1;",
            "decide x; 1: decide x; 1: stop; end; else: stop; end;", "decide x; 1: stop; else: decide x; 1: stop; else: x := 1; end; end;"}) {
            for (String behind : new String[] {"@end;", "@state f; end;", "@none; stop; end;", "@when y; stop; end;", "@input s; stop; end;", "@save s; end;"}) {
                Desk.fault(6, HEAD + "l: x := 0; next e; state e; none; " + bad + " " + behind);
            }
            Desk.fault(6, STATE + "input s; " + bad + " @end;");
            Desk.fault(6, STATE + "when y; " + bad + " @end;");
            Desk.fault(6, HEAD + bad + " @end;");
        }
    }

    private static void nextOfStarts() {
        Desk.fault(6, P + "start; next @-; state e; end;");
        Desk.fault(6, P + "start; l: k: next @-; state e; end;");
        Desk.fault(6, HEAD + "decide x; 1: stop; else: next @-; end; end;");
        Desk.good(P + "start; join l; state e; none; l: next -; end;");
        Desk.fault(6, P + "start; stop; end; process q 1..1; start; next @-; end;");
    }

    /** Of one place the least number. */
    private static void onePlace() {
        Desk.fault(3, STATE + "input m(x, @x, z);" + TAIL);
        Desk.fault(3, STATE + "input m(x, y, @y);" + TAIL);
        Desk.fault(5, STATE + "save s; input @s(x);" + TAIL);
        Desk.fault(5, STATE + "save i; input @i(x, y);" + TAIL);
        Desk.fault(5, STATE + "save t; input @t(x);" + TAIL);
        Desk.fault(4, STATE + "save @w, w; end;");
        Desk.fault(3, "signal n; process p 1..1 (n: int); timer @n; start; stop; end;");
    }

    private static void firstByPlace() {
        String twice = "signal s, s; ";
        Desk.fault(6, "process p 1..@0; start; stop; end; " + twice);
        Desk.fault(3, twice.replace("s, s", "s, @s") + "process p 1..0; start; stop; end;");
        Desk.fault(5, HEAD + "x := @y; x := w; decide x; 2 .. 1: end; next -; end;");
        Desk.fault(4, HEAD + "x := @w; x := y; decide x; 2 .. 1: end; next -; end;");
        Desk.fault(6, HEAD + "decide x; 2 .. @1: end; x := w; x := y; next -; end;");
        Desk.fault(6, HEAD + "decide x; 1: next @-; end; x := w; x := y; stop; end;");
        Desk.fault(5, HEAD + "decide x; @true: 2 .. 1: end; x := w; stop; end;");
        Desk.fault(6, HEAD + "x := 1; @state e; none; x := w; stop; end;");
        Desk.fault(4, HEAD + "x := @w; state e; none; stop; end;");
        Desk.fault(4, "route r @q -> p with s; signal t, t;");
        Desk.fault(4, "route r env -> env with @s; signal t, t;");
        // The name is ahead of what stands behind it.
        Desk.fault(5, HEAD + "output @s(w) to x;" + TAIL);
        Desk.fault(4, HEAD + "output i(@w) to x;" + TAIL);
        Desk.fault(5, HEAD + "output i(1) to @x;" + TAIL);
        Desk.fault(4, HEAD + "create @q(w);" + TAIL);
        Desk.fault(4, HEAD + "set @u w;" + TAIL);
        Desk.fault(4, HEAD + "@w[w] := w;" + TAIL);
        Desk.fault(5, HEAD + "@x[w] := w;" + TAIL);
        Desk.fault(4, HEAD + "a[@w] := w;" + TAIL);
        Desk.fault(5, HEAD + "@a := w;" + TAIL);
        Desk.fault(5, HEAD + "x := @x[w];" + TAIL);
    }

    /** Of an e with a fault in it the sort is not asked. */
    private static void whatIsNotAsked() {
        Desk.fault(5, HEAD + "y := 1 + @y;" + TAIL);
        Desk.fault(5, HEAD + "y := - @y;" + TAIL);
        Desk.fault(5, HEAD + "x := not @x;" + TAIL);
        Desk.fault(5, HEAD + "x := 1 < @y;" + TAIL);
        Desk.fault(5, HEAD + "x := y and @x;" + TAIL);
        Desk.fault(5, HEAD + "x := x = @y;" + TAIL);
        Desk.fault(5, HEAD + "y := a[@y];" + TAIL);
        Desk.fault(5, HEAD + "y := (1 + (2 * @y)) + 3;" + TAIL);
        Desk.fault(4, HEAD + "y := 1 + @w;" + TAIL);
        Desk.fault(4, HEAD + "x := active @w;" + TAIL);
        Desk.fault(5, HEAD + "output i(1 = @y);" + TAIL);
        Desk.fault(5, HEAD + "set t not @x;" + TAIL);
        Desk.fault(5, HEAD + "output s to 1 + @y;" + TAIL);
        Desk.fault(5, HEAD + "decide null = @x; 1: end;" + TAIL);
        Desk.fault(5, HEAD + "y := 1 + @y = true;" + TAIL);
        Desk.fault(5, STATE + "when 1 + @y;" + TAIL);
        Desk.fault(5, STATE + "input s if - @y;" + TAIL);
        // The left side goes ahead of the right one, and its sort is the one that counts.
        Desk.fault(5, HEAD + "x := @y + z;" + TAIL);
        Desk.fault(5, HEAD + "y := z = @1;" + TAIL);
        Desk.fault(5, HEAD + "y := 1 = @z;" + TAIL);
    }

    /** Numbers are in the order of the text; what is told later counts, too. */
    private static void told() {
        Desk desk = Desk.started("process p 1..1; timer b; timer a; var y: int; var x: int; start; y := 5; set a 3; x := 6; next w; state z, w; none; output g to self; next z; end; "
            + "route r p -> p delay 9 with h; route q p -> p delay 8 with h, g; signal h, g;", 1);
        ExchangeHouse x = desk.house;
        x.run(1);
        Desk.due("the variable told first is cell 0", x.cell(1, 0), 5);
        Desk.due("the other one", x.cell(1, 1), 6);
        Desk.due("the timer told first is 0", x.timer(1, 0), -1);
        Desk.due("the other one", x.timer(1, 1), 3);
        Desk.due("the state told first is 0", x.instance(1, 1), 1);
        x.none(1, 0);
        Desk.due("the other one", x.instance(1, 1), 0);
        Desk.due("the route told first is 0", x.way(0, 0, 0), -1);
        Desk.due("the signal told second is 1", x.way(1, 0, 0), 1);
    }

    /** Wherever an e stands it may be an or, and it has its sort. */
    private static void wholeExpressions() {
        Desk.good(HEAD + "y := y or y and y; decide y or x < 1 and not y; true: end; output b(y or y); a[x] := 1;" + TAIL + " signal b(bool);");
        Desk.good(STATE + "input s if y or y; stop; when y or y prio 1;" + TAIL);
        Desk.good("process p 1..1 (k: bool); start; create p(k or k);" + TAIL);
        Desk.fault(5, HEAD + "x := @y or y;" + TAIL);
        Desk.fault(5, HEAD + "set t @y or y;" + TAIL);
        Desk.fault(5, HEAD + "a[@y or y] := 1;" + TAIL);
        Desk.fault(5, HEAD + "a[0] := @y or y;" + TAIL);
        Desk.fault(5, HEAD + "x := a[@y or y];" + TAIL);
        Desk.fault(5, HEAD + "x := @(y or y);" + TAIL);
        Desk.fault(5, HEAD + "output i(@y or y);" + TAIL);
        Desk.fault(5, HEAD + "output s to @y or y;" + TAIL);
        Desk.fault(5, HEAD + "decide y or y; @1: end;" + TAIL);
        String[] ints = {"x", "1", "a[0]", "now", "waiting", "x + 1", "- x", "x % 2", "(1)"};
        String[] bools = {"y", "true", "false", "active t", "x < 1", "x = 1", "not y", "y or y", "y and y", "(y)"};
        String[] pids = {"z", "null", "self", "sender", "parent", "offspring", "(self)"};
        String[][] all = {ints, bools, pids};
        for (int sort = 0; sort < 3; sort++) {
            for (String e : all[sort]) {
                sorted(e, sort);
            }
        }
    }

    /** An e of a sort (0 int, 1 bool, 2 pid) stands where each is asked for. */
    private static void sorted(String e, int sort) {
        String[] places = {"x := %;", "y := %;", "z := %;", "a[%] := 1;", "x := a[%];", "set t %;", "output i(%);", "output s to %;", "x := x + (%);", "y := (%) and y;", "y := 1 <= (%);", "y := self = (%);", "x := - (%);", "y := not (%);"};
        int[] wants = {0, 1, 2, 0, 0, 0, 0, 2, 0, 1, 0, 2, 0, 1};
        for (int k = 0; k < places.length; k++) {
            String text = HEAD + places[k].replace("%", "@" + e).replace("(@", "@(") + TAIL;
            if (wants[k] == sort) {
                Desk.good(text.replace("@", ""));
            } else {
                Desk.fault(5, text.replace("i@(", "i(@"));
            }
        }
        for (String stimulus : new String[] {"when @%;", "input s if @%;"}) {
            String text = STATE + stimulus.replace("%", e) + TAIL;
            if (sort == 1) {
                Desk.good(text.replace("@", ""));
            } else {
                Desk.fault(5, text);
            }
        }
        if (sort == 2) {
            Desk.fault(5, HEAD + "decide @" + e + "; 1: end;" + TAIL);
        } else {
            Desk.good(HEAD + "decide " + e + "; " + (sort == 0 ? "1" : "true") + ": end;" + TAIL);
            Desk.fault(5, HEAD + "decide " + e + "; @" + (sort == 0 ? "true" : "1") + ": end;" + TAIL);
        }
    }

    /** Many behind one another, and twelve within one another behind another. */
    private static void manyDecides() {
        String many = Desk.repeat("decide x;1:end;", 160);
        Desk.good(P + "var x:int;var y:bool;start;" + many + "y:=x=1;stop;end;");
        Desk.fault(5, P + "var x:int;var y:bool;start;" + many + "y:=@x;stop;end;");
        Desk.fault(5, P + "var x:int;var y:bool;start;" + many + "decide y;@1:end;stop;end;");
        String nested = "decide x; 1: end; " + Desk.repeat("decide x; 1: ", 11);
        Desk.good(HEAD + nested + "decide y; true: end; " + Desk.repeat("2: end; ", 11) + TAIL);
        Desk.fault(5, HEAD + nested + "decide y; @1: end; " + Desk.repeat("end; ", 11) + TAIL);
        Desk.fault(5, HEAD + nested + "decide y; true: end; @true: " + Desk.repeat("end; ", 11) + TAIL);
        // What must stand behind active, and in a bound.
        Desk.fault(1, HEAD + "y := active @;" + TAIL);
        Desk.fault(1, HEAD + "y := active @and y;" + TAIL);
        Desk.fault(1, HEAD + "decide x; - @: end;" + TAIL);
        Desk.fault(1, HEAD + "decide x; - @, 2: end;" + TAIL);
        Desk.fault(1, HEAD + "decide x; 1 .. @: end;" + TAIL);
        Desk.fault(1, HEAD + "decide x; 1 .. @, 2: end;" + TAIL);
        Desk.fault(1, HEAD + "decide x; 1 .. - @: end;" + TAIL);
        Desk.fault(1, HEAD + "decide x; - @- 1: end;" + TAIL);
    }
}
