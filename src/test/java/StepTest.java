/** What the terms say of steps, transitions, errors, outputs and routes. */
public final class StepTest {
    private static final String ENV = "route e env -> p with ";

    public static void main(String[] args) {
        arithmetic();
        parameters();
        kept();
        stars();
        conditions();
        whens();
        decides();
        joins();
        errors();
        errorsInOrder();
        tooLong();
        timers();
        stopsAmongOthers();
        allDue();
        mostTypes();
        creating();
        outputsTo();
        outputsVia();
        rows();
        draws();
        dueInOrder();
        largest();
        Desk.close("StepTest");
    }

    /** What an int e is in a type with x = 7, y = -7, big = 999999999 and an array a of 1, 2, 3; one start's trans works it out. */
    private static int worth(String e) {
        Desk desk = Desk.started("process p 1..1; var r: int; var x: int; var y: int; var big: int; var a: int[3]; timer t; start; "
            + "x := 7; y := - x; big := 999999999; a[0] := 1; a[1] := 2; a[2] := 3; r := " + e + "; next z; state z; end;", 1);
        Desk.due("start", desk.house.run(5), 1);
        return desk.house.cell(1, 0);
    }

    private static boolean truth(String e) {
        Desk desk = Desk.started("process p 1..1; var r: bool; var x: int; var a: int[3]; timer t; timer u; start; "
            + "x := 7; a[2] := 3; set u 5; r := " + e + "; next z; state z; end;", 1);
        Desk.due("start", desk.house.run(1), 1);
        return desk.house.cell(1, 0) == 1;
    }

    private static void arithmetic() {
        Desk.due("precedence", worth("1 + 2 * 3 - 4 / 2"), 5);
        Desk.due("from the left", worth("10 - 3 - 2"), 5);
        Desk.due("from the left", worth("100 / 5 / 2 % 7"), 3);
        Desk.due("towards 0", worth("y / 2"), -3);
        Desk.due("towards 0", worth("x / - 2"), -3);
        Desk.due("the sign of the left side", worth("y % 2"), -1);
        Desk.due("the sign of the left side", worth("x % - 2"), 1);
        Desk.due("it goes round", worth("big * 3"), 999999999 * 3);
        Desk.due("it goes round", worth("big + big + big"), 999999999 * 3);
        Desk.due("the least", worth("(0 - big - big - 147483650) / - 1"), Integer.MIN_VALUE);
        Desk.due("the least", worth("(0 - big - big - 147483650) % - 1"), 0);
        Desk.due("the least", worth("- (0 - big - big - 147483650)"), Integer.MIN_VALUE);
        Desk.due("minus", worth("- - x - - x"), 14);
        Desk.due("an element", worth("a[a[0]] + a[x - 5]"), 5);
        Desk.due("now and waiting", worth("now + waiting"), 0);
        Desk.due("and, or", truth("true or false and false"), true);
        Desk.due("not", truth("not true or true"), true);
        Desk.due("not", truth("not (true or true)"), false);
        Desk.due("less", truth("x < 7"), false);
        Desk.due("at most", truth("x <= 7 and 7 >= x and x > 6"), true);
        Desk.due("relations bind more", truth("x = 7 and x /= 8"), true);
        Desk.due("pids", truth("self = self and null /= self and sender = null and parent = offspring"), true);
        Desk.due("bools", truth("(x < 7) = false"), true);
        Desk.due("active", truth("active u and not active t"), true);
        Desk.due("two elements", truth("a[2] = 3 and a[0] = 0"), true);
    }

    private static void parameters() {
        Desk desk = Desk.started("process p 0..3 (k: int, b: bool, q: pid); var a: int[2]; var c: int; start; c := k + 1; a[1] := 9; next z; state z; end; "
            + "process q 1..1; start; create p(41, true, self); next z; state z; end;", 1);
        ExchangeHouse x = desk.house;
        Desk.due("at first", x.cell(1, 0), 0);
        Desk.due("run", x.run(9), 2);
        Desk.due("cells", x.type(0, 1), 6);
        int[] want = {41, 1, 1, 0, 9, 42, 0, 0};
        for (int k = 0; k < want.length; k++) {
            Desk.due("cell " + k, x.cell(2, k), want[k]);
        }
        Desk.due("cell below 0", x.cell(2, -1), 0);
        Desk.due("cell of none", x.cell(7, 0), 0);
        Desk.due("parent", x.instance(2, 4), 1);
        Desk.due("offspring", x.instance(1, 5), 2);
        Desk.due("sender", x.instance(2, 3), 0);
    }

    private static void kept() {
        Desk desk = Desk.started("signal s, u, v; " + ENV + "s, u, v; process p 1..1; start; next a; state a; save s; input u; next b; state b; input s; next -; end;", 1);
        ExchangeHouse x = desk.house;
        x.go(1);
        x.put(0, 1, 0, 0, 0);
        Desk.due("saved: no step", x.instance(1, 6), 0);
        x.put(2, 1, 0, 0, 0);
        Desk.due("nothing tells it", x.instance(1, 6), 3);
        x.put(1, 1, 0, 0, 0);
        Desk.due("steps", x.run(10), 3);
        desk.events("in this order", 2, "3 1 2 0", "2 1 1 0", "5 1 -1 0", "2 1 0 0", "5 1 -1 0");
        Desk.due("lost", x.count(7), 1);
        Desk self = Desk.started("signal s, u; route r p -> p with u; " + ENV + "s; process p 1..2; start; next a; state a; input s; output u to self; next b; state b; end;", 1);
        self.house.go(1);
        self.house.put(0, 1, 0, 0, 0);
        Desk.due("steps", self.house.run(2), 2);
        Desk.due("a lost one's sender", self.house.instance(1, 3), 1);
    }

    private static void stars() {
        Desk desk = Desk.started("signal s, u, v; " + ENV + "s, u, v; process p 1..1; var n: int; timer t; start; set t 0; next a; "
            + "state a; input *; n := n + 1; next -; save u; input s; n := n + 10; next b; state b; save *; input u; n := n + 100; next -; end;", 1);
        ExchangeHouse x = desk.house;
        x.put(1, 1, 0, 0, 0);
        x.put(2, 1, 0, 0, 0);
        x.put(0, 1, 0, 0, 0);
        x.put(2, 1, 0, 0, 0);
        Desk.due("steps", x.run(20), 4);
        // The timer's signal is the last one: by then the state is b, which saves it, and v.
        Desk.due("what was done", x.cell(1, 0), 111);
        Desk.due("kept", x.instance(1, 2), 2);
        Desk.due("v", x.queued(1, 0, 0), 2);
        Desk.due("t", x.queued(1, 1, 0), 100);
    }

    private static void conditions() {
        Desk desk = Desk.started("signal s(int), g, h; " + ENV + "s, g, h; process p 1..1; var k: int; var w: int; start; next a; "
            + "state a; input s(k) if k = 1 and waiting = 1; w := waiting; next -; input g; k := 1; next -; input h if 1 / k > 0; next -; end;", 1);
        ExchangeHouse x = desk.house;
        x.go(1);
        x.put(0, 1, 5, 0, 0);
        Desk.due("the if is looked at ahead of the values", x.go(1), 0);
        x.put(2, 1, 0, 0, 0);
        Desk.due("an if with an error is not true", x.go(1), 0);
        Desk.due("and no error", x.count(8), 0);
        x.put(1, 1, 0, 0, 0);
        Desk.due("behind those kept", x.instance(1, 6), 2);
        Desk.due("g", x.go(1), 1);
        Desk.due("s waits with h, so h goes", x.go(1), 1);
        Desk.due("s is left", x.queued(1, 0, 0), 0);
        Desk.due("s goes", x.go(1), 1);
        Desk.due("its value", x.cell(1, 0), 5);
        Desk.due("in its trans it waits no more", x.cell(1, 1), 0);
        Desk star = Desk.started("signal s; " + ENV + "s; process p 1..1; var k: int; start; next a; state a; input * if k = 1; next -; when k = 0; k := 1; next -; end;", 1);
        star.house.put(0, 1, 0, 0, 0);
        Desk.due("kept by input *", star.house.run(2), 2);
        Desk.due("the when went", star.house.cell(1, 0), 1);
        Desk.due("then it is taken", star.house.run(5), 1);
        // For an if the sender is still the one before.
        Desk sender = Desk.started("signal s; " + ENV + "s; process p 1..1; start; next a; state a; when sender = null; next b; state b; input s if sender = self; next c; state c; end;", 1);
        Desk.due("steps", sender.house.run(9), 2);
        sender.house.put(0, 1, 0, 0, 0);
        Desk.due("sender is self yet", sender.house.run(9), 1);
        Desk.due("then the signal's", sender.house.instance(1, 3), 0);
    }

    private static void whens() {
        Desk desk = Desk.started("signal s; " + ENV + "s; process p 1..1; var n: int; start; next a; state a; when 1 / n >= 0 and n = 0; n := 99; next -; "
            + "when n = 0 prio 3; n := 1; next -; when n = 0 prio 2; n := 2; next -; when n = 0 prio 2; n := 3; next -; "
            + "when n = 2 prio 1; n := 4; next -; when n = 2; n := 5; next b; input s; n := n * 10; next -; state b; end;", 1);
        ExchangeHouse x = desk.house;
        x.go(1);
        Desk.due("a when", x.instance(1, 6), 4);
        Desk.due("the least prio, the first one told", x.go(1), 1);
        Desk.due("n", x.cell(1, 0), 2);
        x.put(0, 1, 0, 0, 0);
        Desk.due("a signal goes ahead", x.instance(1, 6), 2);
        x.begin(1);
        x.run(3);
        Desk.due("one with an error is not true; prio 0 without one", x.cell(1, 0), 5);
        desk.events("of a when", 1, "5 1 -1 0", "5 1 -1 0", "5 1 -1 0");
    }

    private static int decided(String value, String branches) {
        Desk desk = Desk.started("process p 1..1; var n: int; var x: int; start; x := " + value + "; decide x; " + branches + " end; n := n + 1000; next a; state a; end;", 1);
        desk.house.run(1);
        return desk.house.cell(1, 0);
    }

    private static void decides() {
        String branches = "1, 3 .. 5: n := 1; -2 .. -1, 4: n := 2; 9: stop; else: n := 3;";
        Desk.due("a number", decided("1", branches), 1001);
        Desk.due("a range's end", decided("5", branches), 1001);
        Desk.due("the first branch that has it", decided("4", branches), 1001);
        Desk.due("below 0", decided("- 2", branches), 1002);
        Desk.due("none has it: the else", decided("2", branches), 1003);
        Desk.due("no else: what is behind", decided("2", "1: n := 1;"), 1000);
        Desk.due("an empty part", decided("2", "2: else: n := 1;"), 1000);
        Desk.due("a last in a part", decided("9", branches), 0);
        Desk.due("within one another", decided("6", "1: n := 1; 2 .. 9: decide x + 1; 6: n := 6; 7: n := 7; else: n := 8; end; n := n + 100; else: n := 9;"), 1107);
        Desk bool = Desk.started("process p 1..1; var n: int; start; decide n = 0; false: n := 1; true: n := 2; end; decide n = 1; true: n := 5; false: n := n + 10; end; next a; state a; end;", 1);
        bool.house.run(1);
        Desk.due("of bools", bool.house.cell(1, 0), 12);
    }

    private static void joins() {
        Desk desk = Desk.started("process p 1..1; var n: int; start; n := 1; join l; state a; none; n := n + 10; decide n; 0: stop; else: n := n + 100; l: k: n := n + 1000; end; n := n * 2; next -; "
            + "none; m: next b; state b; none; join m; end;", 1);
        ExchangeHouse x = desk.house;
        Desk.due("what its step is", x.instance(1, 6), 1);
        Desk.due("start", x.go(1), 1);
        Desk.due("it went on behind the label", x.cell(1, 0), 2002);
        Desk.due("next - by a join out of a start", x.instance(1, 1), -1);
        Desk.due("its beginning is left to it", x.instance(1, 6), 1);
        desk.events("the state became the same", 1, "5 1 -1 0");
        Desk.due("again", x.go(1), 1);
        Desk.due("n", x.cell(1, 0), 2002);
        Desk back = Desk.started("process p 1..1; var n: int; start; next a; state a; none; m: n := n + 1; next b; state b; none; join m; end;", 1);
        back.house.go(1);
        back.house.none(1, 0);
        Desk.due("state", back.house.instance(1, 1), 1);
        back.house.none(1, 0);
        Desk.due("by a join into another state's trans", back.house.cell(1, 0), 2);
    }

    private static void failing(String act, int number) {
        String text = "signal s, u(int); route r p -> p with s; " + ENV + "s; process p 2..2; var a: int[3]; var z: int; timer t; start; set t 9; a[1] := 5; next z; state z; input s; a[2] := 6; l: k: ";
        Desk desk = Desk.started(text + act + "; next -; state y; none; join l; none; join k; end;", 1);
        ExchangeHouse x = desk.house;
        x.run(2);
        x.put(0, 1, 0, 0, 0);
        x.put(0, 1, 0, 0, 0);
        Desk.due("a step with an error", x.go(1), 1);
        Desk.due("errors by " + act, x.count(8), 1);
        Desk.due("its number by " + act, x.count(9), number);
        Desk.due("its place by " + act, x.count(10), text.length());
        Desk.due("stopped by " + act, x.count(5), 1);
        Desk.due("no instance any more", x.alive(0), 2);
        desk.events(act, 4, "2 1 0 0", "7 1 -1 0", "6 1 -1 0", "3 1 0 0");
        Desk.due("not alive", x.timer(1, 0), -1);
        Desk.due("the step counts", x.count(11), 3);
        x.begin(4);
        Desk.due("a new run has no error", x.count(8) + x.count(9) + x.count(10), 0);
    }

    private static void errors() {
        failing("a[3] := 1", 1);
        failing("a[0 - 1] := 1", 1);
        failing("z := a[3]", 1);
        failing("z := a[a[1]]", 1);
        failing("z := 1 / z", 2);
        failing("z := 1 % (a[1] - 5)", 2);
        failing("set t 1 / z", 2);
        failing("output u(1)", 3);
        failing("output u(1) to self", 3);
        failing("decide 1 / z; 1: end", 2);
        failing("decide 7 / z; 1: stop; else: next z; end", 2);
    }

    private static void errorsInOrder() {
        failing("z := a[9] + 1 / z", 1);
        failing("z := 1 / z + a[9]", 2);
        failing("z := a[1 / z]", 2);
        failing("a[9] := 1 / z", 1);
        failing("a[1 / z] := a[9]", 2);
        failing("output u(1 / z)", 2);
        failing("output u(a[9]) to self", 1);
        failing("z := a[9] / 0", 1);
        failing("decide z = 1 and 1 / z = 1; true: end", 2);
        failing("decide z = 0 or 1 / z = 1; true: end", 2);
    }

    private static void tooLong() {
        Desk loop = Desk.started("process p 1..1; var n: int; start; l: n := n + 1; join l; end;", 1);
        Desk.due("a step", loop.house.run(5), 1);
        Desk.due("error", loop.house.count(9), 4);
        Desk.due("at the 201st, behind its label", loop.house.count(10), 38);
        StringBuilder acts = new StringBuilder();
        for (int i = 0; i < 99; i++) {
            acts.append("n:=0;n:=1;");
        }
        // 198 acts, a decide, and a next make 200.
        String text = "process p 1..1;var n: int;start;" + acts + "decide n;5:end;";
        Desk good = Desk.started(text + "next z;state z;end;", 1);
        Desk.due("a step", good.house.run(5), 1);
        Desk.due("no error", good.house.count(8), 0);
        Desk.due("its state", good.house.instance(1, 1), 0);
        everyActCounts();
        Desk bad = Desk.started(text + "n:=7;l:next z;state z;none;join l;end;", 1);
        Desk.due("a step", bad.house.run(5), 1);
        Desk.due("error", bad.house.count(9), 4);
        Desk.due("at the last's first token", bad.house.count(10), text.length() + 7);
    }

    /** Of each kind of act 200 are good with their next, and 201 are not. */
    private static void everyActCounts() {
        String[] acts = {"n:=1;", "a[1]:=1;", "output s;", "output s to self;", "output s via r;", "set t 1;", "reset t;", "create p;", "decide n;1:end;", "decide n;0:2:else:end;"};
        for (String act : acts) {
            String loop = "process p 1..1;var n:int;var m:int;var a:int[2];timer t;start;l:m:=m+1;" + act + "decide m;1..%:join l;end;";
            String ends = "next z;state z;end;signal s;route r p->p with s;";
            // Each round has 3 acts and, but for the last one, a join: 50 rounds are 199.
            Desk good = Desk.started(loop.replace("%", "49") + ends, 1);
            Desk.due("a step", good.house.run(1), 1);
            Desk.due("no error by " + act, good.house.count(8), 0);
            Desk bad = Desk.started(loop.replace("%", "49") + act + act + ends, 1);
            Desk.due("a step", bad.house.run(1), 1);
            Desk.due("an error by " + act, bad.house.count(9), 4);
            Desk more = Desk.started(loop.replace("%", "49") + "n:=n+1;" + ends, 1);
            Desk.due("a step", more.house.run(1), 1);
            Desk.due("an error by one more", more.house.count(9), 4);
        }
    }

    private static void timers() {
        Desk desk = Desk.started("signal s, g; " + ENV + "s, g; process p 1..1; var x: bool; timer t; timer u; start; set t 4; set u 4; next a; "
            + "state a; save t, u; input s; x := active t; reset t; next -; input g; set u 3; next b; state b; input u; x := active u; set u 0 - 9; next c; state c; end;", 1);
        ExchangeHouse x = desk.house;
        x.run(9);
        Desk.due("both came", x.instance(1, 2), 2);
        Desk.due("not set any more", x.timer(1, 0), -1);
        x.put(0, 1, 0, 0, 0);
        x.run(1);
        Desk.due("active by its signal", x.cell(1, 0), 1);
        Desk.due("reset takes it out", x.instance(1, 2), 1);
        Desk.due("the other one is left", x.queued(1, 0, 0), 101);
        Desk.due("nothing is lost by that", x.count(7), 0);
        x.put(1, 1, 0, 0, 0);
        x.run(1);
        Desk.due("set takes it out, too", x.instance(1, 2), 0);
        Desk.due("and sets it", x.timer(1, 1), 7);
        x.run(1);
        Desk.due("now", x.count(4), 7);
        Desk.due("taken out it is not active", x.cell(1, 0), 0);
        Desk.due("below 0 it is now", x.timer(1, 1), 7);
        Desk.due("sender of a timer's signal", x.instance(1, 3), 1);
        Desk.due("timer that is not there", x.timer(1, 2), -1);
        Desk.due("timer below 0", x.timer(1, -1), -1);
        Desk full = Desk.started("signal s; " + ENV + "s; process p 1..1; timer t; start; set t 1; next a; state a; save *; end;", 1);
        for (int i = 0; i < 6; i++) {
            full.house.put(0, 1, 0, 0, 0);
        }
        Desk.due("run", full.house.run(9), 1);
        full.events("a timer's signal is lost", 2, "8 1 100 1", "3 1 100 1");
    }

    /** What is left of the others when one in their midst stops. */
    private static void stopsAmongOthers() {
        Desk desk = Desk.started("signal s(int), g; route r p -> p with s; route e env -> p with g, s; process p 1..4 (k: int); timer t; timer u; start; set u 10 * waiting + 7; create p(k + 1); output s(k) to offspring; next a; "
            + "state a; save s; input g; stop; none; next -; end;", 1);
        ExchangeHouse x = desk.house;
        Desk.due("steps", x.run(4), 4);
        x.none(1, 0);
        x.none(4, 0);
        x.put(0, 4, 8, 0, 0);
        x.put(1, 2, 0, 0, 0);
        Desk.due("the second stops", x.go(2), 1);
        Desk.due("three are left", x.count(5), 3);
        Desk.due("pids", x.alive(0) * 100 + x.alive(1) * 10 + x.alive(2), 134);
        int[][] want = {{0, 0, 0, 1, 0, 2}, {0, 0, 1, 0, 2, 4}, {0, 0, 2, 4, 3, 0}};
        int[] pids = {1, 3, 4};
        for (int i = 0; i < 3; i++) {
            for (int what = 0; what < 6; what++) {
                Desk.due("instance " + pids[i] + ", " + what, x.instance(pids[i], what), want[i][what]);
            }
            Desk.due("cell", x.cell(pids[i], 0), pids[i] - 1);
            Desk.due("timer", x.timer(pids[i], 0), -1);
            Desk.due("timer", x.timer(pids[i], 1), i == 0 ? 7 : 17);
        }
        Desk.due("queue", x.queued(3, 0, 1) * 10 + x.queued(3, 0, 2), 21);
        Desk.due("queue", x.queued(4, 0, 1) * 10 + x.queued(4, 0, 2), 32);
        Desk.due("queue", x.queued(4, 1, 1) * 10 + x.queued(4, 1, 2), 8);
        newInPlaceOfOld();
        Desk active = Desk.started("signal s; route e env -> p with s; process p 1..1; var x: bool; timer t; start; next a; state a; save s; none; x := active t; next -; end;", 1);
        active.house.run(1);
        active.house.put(0, 1, 0, 0, 0);
        active.house.none(1, 0);
        Desk.due("another signal does not make a timer active", active.house.cell(1, 0), 0);
    }

    /** One that is made behind one that stopped has nothing of it. */
    private static void newInPlaceOfOld() {
        Desk desk = Desk.started("signal s; route e env -> k with s; process m 1..1; start; next a; state a; none; create k; next -; end; "
            + "process k 0..2; var n: int; timer t; start; next a; state a; save s; none; n := 5; set t 5; create k; next -; none; stop; end;", 1);
        ExchangeHouse x = desk.house;
        x.run(1);
        x.none(1, 0);
        x.go(2);
        x.put(0, 2, 0, 0, 0);
        x.none(2, 0);
        Desk.due("offspring", x.instance(2, 5), 3);
        x.go(3);
        x.none(3, 1);
        x.none(2, 1);
        x.none(1, 0);
        int[] want = {1, -1, 0, 0, 1, 0, 1};
        for (int what = 0; what < 7; what++) {
            Desk.due("instance, " + what, x.instance(4, what), want[what]);
        }
        Desk.due("cell", x.cell(4, 0), 0);
        Desk.due("timer", x.timer(4, 0), -1);
        Desk.due("no queue", x.queued(4, 0, 0), -1);
    }

    /** All that is due comes at once. */
    private static void allDue() {
        Desk desk = Desk.started("signal s; route e env -> p delay 2 with s; route f env -> q delay 2 with s; process p 1..1; start; next a; state a; save *; end; process q 1..1; start; next a; state a; save *; end;", 1);
        ExchangeHouse x = desk.house;
        for (int i = 0; i < 6; i++) {
            x.put(0, 1, 0, 0, 0);
            x.put(0, 2, 0, 0, 0);
        }
        x.wait(2);
        x.go(5);
        Desk.due("six", x.instance(1, 2), 6);
        Desk.due("six", x.instance(2, 2), 6);
        Desk.due("none left", x.way(1, 0, 0), -1);
    }

    /** Six types with twelve states each, and twenty signals. */
    private static void mostTypes() {
        StringBuilder text = new StringBuilder("signal s0");
        for (int i = 1; i < 20; i++) {
            text.append(",s").append(i);
        }
        text.append(";");
        for (int t = 0; t < 6; t++) {
            text.append("route r").append(t).append(" env->p").append(t).append(" with s19;process p").append(t);
            text.append(" 1..1;var n:int;timer t;timer u;timer v;start;next z11;state z0,z1,z2,z3,z4,z5,z6,z7,z8,z9,z10,z11;");
            text.append("input s19;n:=1").append(t).append(";set v 1;next -;state z11;input v;n:=n+20;next z0;input *;stop;");
            text.append("end;");
        }
        Desk desk = Desk.started(text.toString(), 1);
        ExchangeHouse x = desk.house;
        Desk.due("starts", x.run(6), 6);
        for (int t = 0; t < 6; t++) {
            Desk.due("put", x.put(19, t + 1, 0, 0, 0), 1);
        }
        Desk.due("steps", x.run(100), 12);
        for (int t = 0; t < 6; t++) {
            Desk.due("n of " + t, x.cell(t + 1, 0), 30 + t);
            Desk.due("state of " + t, x.instance(t + 1, 1), 0);
        }
    }

    private static void creating() {
        Desk desk = Desk.started("process m 1..1; var n: int; start; next a; state a; none; create k; n := n + 1; next -; end; process k 0..2; start; stop; end;", 1);
        ExchangeHouse x = desk.house;
        x.go(1);
        x.none(1, 0);
        Desk.due("offspring", x.instance(1, 5), 2);
        x.none(1, 0);
        Desk.due("offspring", x.instance(1, 5), 3);
        x.none(1, 0);
        Desk.due("as many as the second count", x.instance(1, 5), 0);
        Desk.due("made", x.count(6), 3);
        Desk.due("it went on", x.cell(1, 0), 3);
        desk.events("made by whom", 2, "0 2 -1 1", "5 1 -1 0", "0 3 -1 1", "5 1 -1 0", "5 1 -1 0");
        x.go(2);
        x.none(1, 0);
        Desk.due("another one can be made", x.instance(1, 5), 4);
        Desk.due("by pids", x.alive(1), 3);
        Desk.due("by pids", x.alive(2), 4);
        Desk twelve = Desk.started("process m 1..1; start; next a; state a; none; create k; next -; end; process k 11..200; start; stop; end;", 1);
        twelve.house.go(1);
        twelve.house.none(1, 0);
        Desk.due("twelve in all", twelve.house.count(5), 12);
        Desk.due("offspring", twelve.house.instance(1, 5), 0);
    }

    private static void outputsTo() {
        Desk desk = Desk.started("signal s(pid), u, o; route r p -> k with u; route r2 p -> k with u, s; route oo p -> env with o; " + ENV + "s; "
            + "process p 1..1; var q: pid; start; next a; state a; input s(q); output u to q; next -; end; "
            + "process k 2..2; start; next a; state a; input u; next -; end;", 1);
        ExchangeHouse x = desk.house;
        x.run(3);
        x.put(0, 1, 3, 0, 0);
        x.go(1);
        desk.events("to one", 6, "2 1 0 0", "1 1 1 3", "5 1 -1 0");
        Desk.due("it is there", x.queued(3, 0, 1), 1);
        x.put(0, 1, 0, 0, 0);
        x.go(1);
        desk.events("to null", 9, "2 1 0 0", "1 1 1 0", "3 0 1 1", "5 1 -1 0");
        x.put(0, 1, 44, 0, 0);
        x.go(1);
        desk.events("to one that is not alive", 13, "2 1 0 0", "1 1 1 44", "3 44 1 1", "5 1 -1 0");
        x.put(0, 1, 1, 0, 0);
        x.go(1);
        desk.events("to one without a route", 17, "2 1 0 0", "7 1 -1 0", "6 1 -1 0");
        Desk.due("error", x.count(9), 3);
    }

    private static void outputsVia() {
        Desk desk = Desk.started("signal s(int), u; route a p -> k with s; route b p -> env with s, u; route c p -> p with s; "
            + "process k 2..3; var n: int; start; next z; state z; input s(n); stop; end; "
            + "process p 1..1; start; output s(1); output s(2) via b; output s(3) via c; output u; next z; state z; input s; output s(4); output s(5); next -; none; output s(6); next -; end;", 1);
        ExchangeHouse x = desk.house;
        Desk.due("all begin", x.run(3), 3);
        desk.events("the first route told, that of via, env", 3, "5 1 -1 0", "5 2 -1 0", "1 3 0 1", "1 3 0 0", "4 0 0 3", "1 3 0 3", "1 3 1 0", "4 0 1 3", "5 3 -1 0");
        Desk.due("out", x.count(12), 2);
        Desk.due("its signal", x.out(0, 0), 0);
        Desk.due("its sender", x.out(0, 1), 3);
        Desk.due("its time", x.out(0, 2), 0);
        Desk.due("its value", x.out(0, 3), 2);
        Desk.due("no value", x.out(0, 4), 0);
        Desk.due("the other", x.out(1, 0), 1);
        Desk.due("no other", x.out(2, 0), -1);
        Desk.due("run", x.run(1), 1);
        Desk.due("run", x.run(1), 1);
        Desk.due("the least number when it is sent", x.queued(2, 0, 2), 4);
        Desk.due("both", x.queued(2, 1, 2), 5);
        x.run(9);
        x.none(3, 0);
        desk.events("none is alive", x.count(13) - 3, "1 3 0 0", "3 0 0 3", "5 3 -1 0");
    }

    private static void rows() {
        Desk desk = Desk.started("signal s(int); route a p -> k delay 5 with s; route b p -> env delay 0 with s; "
            + "process p 1..1; var n: int; start; next z; state z; none; n := n + 1; output s(n); next -; none; output s(9) via b; next -; end; "
            + "process k 1..1; start; next z; state z; save s; end;", 1);
        ExchangeHouse x = desk.house;
        x.run(2);
        x.none(1, 0);
        x.wait(2);
        x.none(1, 0);
        Desk.due("when", x.way(0, 0, 3), 5);
        Desk.due("when", x.way(0, 1, 3), 7);
        Desk.due("signal", x.way(0, 1, 0), 0);
        Desk.due("sender", x.way(0, 1, 1), 1);
        Desk.due("receiver", x.way(0, 1, 2), 2);
        Desk.due("value", x.way(0, 1, 4), 2);
        Desk.due("no value", x.way(0, 1, 6), 0);
        Desk.due("another what", x.way(0, 1, 7), -1);
        Desk.due("another what", x.way(0, 1, -1), -1);
        Desk.due("none there", x.way(0, 2, 0), -1);
        Desk.due("none there", x.way(0, -1, 0), -1);
        Desk.due("no route", x.way(2, 0, 0), -1);
        Desk.due("no route", x.way(-1, 0, 0), -1);
        for (int i = 0; i < 5; i++) {
            x.none(1, 0);
        }
        Desk.due("six on the way", x.way(0, 5, 4), 6);
        Desk.due("one lost", x.count(7), 1);
        desk.events("lost on the way", x.count(13) - 3, "1 1 0 2", "3 2 0 1", "5 1 -1 0");
        x.none(1, 1);
        Desk.due("a delay of 0 is on the way", x.way(1, 0, 3), 2);
        Desk.due("receiver env", x.way(1, 0, 2), 0);
        Desk.due("nothing is out", x.count(12), 0);
        x.go(7);
        Desk.due("it comes when things come", x.count(12), 1);
        Desk.due("its time", x.out(0, 2), 2);
        Desk.due("run", x.run(9), 0);
        Desk.due("now", x.count(4), 7);
        Desk.due("all are there", x.instance(2, 2), 6);
    }

    private static void draws() {
        Desk desk = Desk.started("signal s; route a p -> env delay 2 .. 9 with s; route b p -> env delay 4 .. 4 with s; route c p -> env delay 3 with s; "
            + "process p 1..1; start; next z; state z; none; output s via a; next -; none; output s via b; next -; none; output s via c; next -; end;", 12345);
        ExchangeHouse x = desk.house;
        x.run(1);
        int seed = 12345;
        int last = 0;
        for (int i = 0; i < 6; i++) {
            x.none(1, 0);
            seed = seed * 1103515245 + 12345;
            Desk.due("the seed", x.count(15), seed);
            last = Math.max(last, 2 + (seed >>> 16) % 8);
            Desk.due("not ahead of the one before it", x.way(0, i, 3), last);
        }
        x.none(1, 0);
        Desk.due("a full row: no draw", x.count(15), seed);
        x.none(1, 1);
        seed = seed * 1103515245 + 12345;
        Desk.due("two numbers: a draw", x.count(15), seed);
        Desk.due("between 4 and 4", x.way(1, 0, 3), 4);
        x.none(1, 2);
        Desk.due("one number: no draw", x.count(15), seed);
        Desk.due("just that", x.way(2, 0, 3), 3);
    }

    private static void dueInOrder() {
        Desk desk = Desk.started("signal s, u; route b env -> p delay 2 with u; route a env -> p delay 1 with s; process p 2..2; timer t; timer v; start; set v 1; set t 2; next z; state z; save *; end;", 1);
        ExchangeHouse x = desk.house;
        x.run(2);
        x.put(1, 2, 0, 0, 0);
        x.put(0, 2, 0, 0, 0);
        x.put(0, 1, 0, 0, 0);
        x.wait(2);
        x.go(9);
        desk.events("timers by pids, in order", x.count(13) - 4, "8 1 100 1", "8 1 101 1", "8 2 100 2", "8 2 101 2");
        Desk.due("routes in order, ahead of timers", x.queued(2, 0, 0), 1);
        Desk.due("routes in order, ahead of timers", x.queued(2, 1, 0), 0);
        Desk.due("timers", x.queued(2, 2, 0), 100);
        Desk.due("timers", x.queued(2, 3, 0), 101);
        Desk.due("in all", x.instance(1, 2), 3);
    }

    /** Texts of nearly 1200 tokens, of those that have the most to hold. */
    private static void largest() {
        StringBuilder text = new StringBuilder("process p 1..1;var x:int;start;");
        for (int i = 0; i < 55; i++) {
            text.append("decide x;0:1:2:3:4:5:6:7:end;");
        }
        Desk decides = Desk.started(text + "x:=77;next z;state z;end;", 1);
        Desk.due("a step", decides.house.run(9), 1);
        Desk.due("it came to the end", decides.house.cell(1, 0), 77);
        Desk.due("state", decides.house.instance(1, 1), 0);
        text = new StringBuilder("process p 1..1;var x:int;start;next z;state z;");
        for (int i = 0; i < 293; i++) {
            text.append("none;stop;");
        }
        Desk nones = Desk.started(text + "end;", 1);
        nones.house.run(1);
        Desk.due("the last none is there", nones.house.none(1, 293), 0);
        Desk.due("the last none is there", nones.house.none(1, 292), 1);
        text = new StringBuilder("signal s;process p 1..1;start;stop;state z;input s");
        for (int i = 0; i < 585; i++) {
            text.append(",s");
        }
        Desk.fault(6, (text + ";stop;end;").replaceFirst(",s", ",@s"));
    }
}
