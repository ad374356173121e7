/** Promises 6 to 11: begin, run, go, none, wait, put. */
public final class RunTest {
    public static void main(String[] args) {
        beginning();
        turns();
        runsUpTo();
        resting();
        byHand();
        byItself();
        waiting();
        putting();
        puttingOthers();
        puttingOnRows();
        Desk.close("RunTest");
    }

    private static void beginning() {
        Desk desk = new Desk();
        ExchangeHouse x = desk.house;
        Desk.due("load", desk.load("process p 2..5 (k: int); start; stop; end; process q 0..1; start; stop; end; process r 3..3; start; stop; end;"), 0);
        Desk.due("begin", x.begin(-77), 5);
        Desk.due("the seed", x.count(15), -77);
        for (int i = 0; i < 5; i++) {
            Desk.due("pid", x.alive(i), i + 1);
            Desk.due("type", x.instance(i + 1, 0), i < 2 ? 0 : 2);
            Desk.due("at its beginning", x.instance(i + 1, 1), -1);
            Desk.due("its step is a start", x.instance(i + 1, 6), 1);
        }
        desk.events("made", 0, "0 1 -1 0", "0 2 -1 0", "0 3 -1 0", "0 4 -1 0", "0 5 -1 0");
        Desk.due("run", x.run(3), 3);
        Desk.due("wait", x.wait(9), 9);
        Desk.due("begin again", x.begin(3), 5);
        Desk.due("now", x.count(4), 0);
        Desk.due("steps", x.count(11), 0);
        Desk.due("made", x.count(6), 5);
        Desk.due("the trace is a new one", x.count(13), 5);
        Desk many = Desk.started("process p 200..200; start; stop; end; process q 1..1; start; stop; end;", 1);
        Desk.due("at most twelve", many.house.count(5), 12);
        Desk.due("the last one", many.house.instance(12, 0), 0);
        Desk.due("no other", many.house.alive(12), -1);
    }

    private static void turns() {
        Desk desk = Desk.started("process p 3..3; var n: int; start; next a; state a; when n < 2; n := n + 1; next -; end;", 1);
        ExchangeHouse x = desk.house;
        x.run(1);
        Desk.due("begin again: none went last", x.begin(1), 3);
        Desk.due("one step", x.run(1), 1);
        Desk.due("the first one went", x.instance(1, 1), 0);
        Desk.due("not the second one", x.instance(2, 1), -1);
        Desk.due("by hand", x.go(3), 1);
        Desk.due("around", x.run(1), 1);
        Desk.due("the first one again", x.cell(1, 0), 1);
        Desk.due("the next one", x.run(1), 1);
        Desk.due("the second one", x.instance(2, 1), 0);
        Desk.due("the rest", x.run(1000), 5);
        Desk.due("it rests", x.run(1000), 0);
        Desk.due("steps in all", x.count(11), 9);
        Desk.due("sender of a when", x.instance(2, 3), 2);
    }

    private static void runsUpTo() {
        Desk desk = Desk.started("process p 1..1; timer t; start; set t 3; next a; state a; input t; set t 4; next -; end;", 1);
        ExchangeHouse x = desk.house;
        Desk.due("no steps", x.run(0), -1);
        Desk.due("less", x.run(-5), -1);
        Desk.due("too many", x.run(1001), -1);
        Desk.due("nothing was done", x.count(11), 0);
        Desk.due("the start", x.run(1), 1);
        Desk.due("behind the last step nothing comes", x.count(4), 0);
        Desk.due("the timer", x.timer(1, 0), 3);
        Desk.due("a step", x.run(1), 1);
        Desk.due("now", x.count(4), 3);
        Desk.due("the timer", x.timer(1, 0), 7);
        Desk.due("many", x.run(1000), 1000);
        Desk.due("now", x.count(4), 4003);
        Desk.due("steps", x.count(11), 1002);
    }

    private static void resting() {
        // A saved timer's signal is no step, and nothing else is there.
        Desk desk = Desk.started("process p 1..1; timer t; timer u; start; set t 5; set u 9; next a; state a; save *; end;", 1);
        ExchangeHouse x = desk.house;
        Desk.due("only the start", x.run(10), 1);
        Desk.due("but time went on", x.count(4), 9);
        Desk.due("both came", x.instance(1, 2), 2);
        Desk.due("in order", x.queued(1, 0, 0) * 1000 + x.queued(1, 1, 0), 100101);
        Desk.due("by itself", x.queued(1, 0, 1), 1);
        Desk.due("no value", x.queued(1, 0, 2), 0);
    }

    private static void byHand() {
        Desk desk = Desk.started("signal s; route r env -> p with s; process p 2..2; timer t; start; set t 2; next a; state a; input t; stop; end;", 1);
        ExchangeHouse x = desk.house;
        Desk.due("one that is not there", x.go(3), 0);
        Desk.due("null", x.go(0), 0);
        Desk.due("less", x.go(-1), 0);
        Desk.due("the second one", x.go(2), 1);
        Desk.due("it is not ready", x.go(2), 0);
        Desk.due("time does not go on by hand", x.count(4), 0);
        Desk.due("wait", x.wait(2), 2);
        Desk.due("it does not come by wait", x.instance(2, 2), 0);
        Desk.due("what is due comes by go of any", x.go(9), 0);
        Desk.due("it came", x.instance(2, 2), 1);
        Desk.due("step", x.go(2), 1);
        Desk.due("stopped", x.instance(2, 0), -1);
        Desk.due("steps by hand count", x.count(11), 2);
        Desk.due("the other one", x.run(5), 2);
    }

    private static void byItself() {
        Desk desk = Desk.started("process p 1..1; var n: int; timer t; start; set t 4; next a; state a; none; n := 1; next -; none; n := 2; next b; "
            + "state *; none; n := 3; next -; state b; none; n := 4; stop; end;", 1);
        ExchangeHouse x = desk.house;
        Desk.due("none at the beginning", x.none(1, 0), 0);
        Desk.due("start", x.go(1), 1);
        Desk.due("k below 0", x.none(1, -1), 0);
        Desk.due("k above", x.none(1, 3), 0);
        Desk.due("no instance", x.none(2, 0), 0);
        Desk.due("the first", x.none(1, 0), 1);
        Desk.due("it was done", x.cell(1, 0), 1);
        Desk.due("sender is self", x.instance(1, 3), 1);
        Desk.due("that of all states is the third", x.none(1, 2), 1);
        Desk.due("it was done", x.cell(1, 0), 3);
        Desk.due("wait", x.wait(4), 4);
        Desk.due("the second", x.none(1, 1), 1);
        Desk.due("what is due came first", x.instance(1, 2), 1);
        Desk.due("another state", x.instance(1, 1), 1);
        Desk.due("that of all comes first there", x.none(1, 0), 1);
        Desk.due("it was done", x.cell(1, 0), 3);
        Desk.due("nones are no steps", x.count(11), 1);
        Desk.due("the last one", x.none(1, 1), 1);
        Desk.due("stopped", x.count(5), 0);
        Desk others = Desk.started("process p 1..1; start; next a; state a; end; process q 1..1; var n: int; start; next a; state a; none; next -; when n = 0; n := 1; next -; end;", 1);
        Desk.due("no other type's when", others.house.run(9), 3);
        Desk.due("no other type's none", others.house.none(1, 0), 0);
        Desk.due("its own", others.house.none(2, 0), 1);
        Desk.due("moves", others.house.search(9), 1);
        Desk.due("just one", others.house.state(0, 3), 1);
        Desk.due("its queue is lost", x.count(7), 1);
        // One that did a none is not the one that went last.
        Desk two = Desk.started("process p 2..2; var n: int; start; next a; state a; none; next -; when n < 1; n := 1; next -; end;", 1);
        Desk.due("starts", two.house.run(2), 2);
        Desk.due("none of the first", two.house.none(1, 0), 1);
        Desk.due("step", two.house.run(1), 1);
        Desk.due("it was the first one's", two.house.cell(1, 0), 1);
    }

    private static void waiting() {
        Desk desk = Desk.started("process p 1..1; timer t; start; set t now + 10; next a; state a; input t; set t 999999999 * 2; next b; "
            + "state b; input t; set t 0 - 5; next c; state c; input t; stop; end;", 1);
        ExchangeHouse x = desk.house;
        Desk.due("less", x.wait(-1), -1);
        Desk.due("too long", x.wait(1000001), -1);
        Desk.due("not at all", x.wait(0), 0);
        Desk.due("long", x.wait(1000000), 1000000);
        Desk.due("start", x.go(1), 1);
        Desk.due("set", x.timer(1, 0), 2000010);
        Desk.due("run", x.run(1), 1);
        Desk.due("now", x.count(4), 2000010);
        Desk.due("set", x.timer(1, 0), 2000000000);
        Desk.due("run", x.run(1), 1);
        Desk.due("now", x.count(4), 2000000000);
        Desk.due("set to now", x.timer(1, 0), 2000000000);
        Desk.due("it stays", x.wait(5), 2000000000);
        Desk.due("run", x.run(9), 1);
        Desk.due("stopped", x.count(5), 0);
    }

    private static void putting() {
        Desk desk = Desk.started("signal s(int, bool, pid), u; route r p -> p with u; route e env -> p with s; process p 1..1; var k: int; var b: bool; var q: pid; "
            + "start; next a; state a; input s(k, b, q); next -; end;", 1);
        ExchangeHouse x = desk.house;
        Desk.due("no such instance", x.put(0, 2, 1, 1, 1), 0);
        Desk.due("no such signal", x.put(2, 1, 1, 1, 1), 0);
        Desk.due("no such signal", x.put(-1, 1, 1, 1, 1), 0);
        Desk.due("no such signal", x.put(100, 1, 1, 1, 1), 0);
        Desk.due("no route", x.put(1, 1, 1, 1, 1), 0);
        Desk.due("nothing was put", x.instance(1, 2), 0);
        Desk.due("put", x.put(0, 1, -5, -6, 77), 1);
        Desk.due("signal", x.queued(1, 0, 0), 0);
        Desk.due("sender", x.queued(1, 0, 1), 0);
        Desk.due("int", x.queued(1, 0, 2), -5);
        Desk.due("bool", x.queued(1, 0, 3), 1);
        Desk.due("pid", x.queued(1, 0, 4), 77);
        Desk.due("run", x.run(9), 2);
        Desk.due("int", x.cell(1, 0), -5);
        Desk.due("bool", x.cell(1, 1), 1);
        Desk.due("pid", x.cell(1, 2), 77);
        Desk.due("sender", x.instance(1, 3), 0);
        desk.events("no event of kind 1", 1, "5 1 -1 0", "2 1 0 0", "5 1 -1 0");
        for (int i = 0; i < 7; i++) {
            Desk.due("put", x.put(0, 1, i, 0, 0), 1);
        }
        Desk.due("six are queued", x.instance(1, 2), 6);
        Desk.due("one is lost", x.count(7), 1);
        desk.events("lost", 4, "3 1 0 0");
    }

    private static void puttingOthers() {
        Desk desk = Desk.started("signal s, u(bool), v(int, bool, bool); route e env -> p with u, v; process p 1..1; start; next a; state a; save *; end;", 1);
        ExchangeHouse x = desk.house;
        Desk.due("a bool", x.put(1, 1, 8, 9, 10), 1);
        Desk.due("three", x.put(2, 1, 8, 0, -10), 1);
        int[] want = {1, 0, 1, 0, 0, 2, 0, 8, 0, 1};
        for (int i = 0; i < want.length; i++) {
            Desk.due("signal " + i / 5 + ", " + i % 5, x.queued(1, i / 5, i % 5), want[i]);
        }
    }

    private static void puttingOnRows() {
        Desk desk = Desk.started("signal s(int); route d env -> q with s; route e env -> p delay 3 with s; route f env -> p with s; process p 1..1; var k: int; "
            + "start; next a; state a; input s(k); next -; end; process q 0..1; start; create q; stop; end;", 1);
        ExchangeHouse x = desk.house;
        for (int i = 0; i < 7; i++) {
            Desk.due("put", x.put(0, 1, i, 9, 9), 1);
        }
        Desk.due("on the way", x.way(1, 0, 3), 3);
        Desk.due("values", x.way(1, 5, 4), 5);
        Desk.due("values it does not have", x.way(1, 5, 5), 0);
        Desk.due("six are on the way", x.way(1, 6, 0), -1);
        Desk.due("one is lost", x.count(7), 1);
        Desk.due("sender", x.way(1, 2, 1), 0);
        Desk.due("receiver", x.way(1, 2, 2), 1);
        Desk.due("run", x.run(9), 7);
        Desk.due("the last one", x.cell(1, 0), 5);
        Desk.due("now", x.count(4), 3);
    }
}
