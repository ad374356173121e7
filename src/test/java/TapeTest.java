/** Promises 1 to 4: a new object, feed, load, place. */
public final class TapeTest {
    private static final String SMALL = "process p 1..1; start; stop; end;";

    public static void main(String[] args) {
        newObject();
        feeding();
        loading();
        oneTextBehindAnother();
        Desk.close("TapeTest");
    }

    private static void newObject() {
        ExchangeHouse x = new ExchangeHouse();
        Desk.due("NONE", ExchangeHouse.NONE, -1);
        Desk.due("place", x.place(), -1);
        Desk.due("begin without a system", x.begin(1), -1);
        Desk.due("run without a run", x.run(1), -1);
        Desk.due("go without a run", x.go(1), -1);
        Desk.due("none without a run", x.none(1, 0), -1);
        Desk.due("wait without a run", x.wait(1), -1);
        Desk.due("put without a run", x.put(0, 1, 0, 0, 0), -1);
        Desk.due("alive without a run", x.alive(0), -1);
        Desk.due("instance without a run", x.instance(1, 0), -1);
        Desk.due("cell without a run", x.cell(1, 0), 0);
        Desk.due("timer without a run", x.timer(1, 0), -1);
        Desk.due("queued without a run", x.queued(1, 0, 0), -1);
        Desk.due("way without a run", x.way(0, 0, 0), -1);
        Desk.due("out without a run", x.out(0, 0), -1);
        Desk.due("event without a run", x.event(0, 0), -1);
        Desk.due("type without a system", x.type(0, 0), -1);
        Desk.due("search without a run", x.search(1), -1);
        Desk.due("state without a run", x.state(0, 0), -1);
        Desk.due("first without a run", x.first(0, 0, 0), -1);
        Desk.due("visit without a run", x.visit(0), -1);
        Desk.due("chart without a run", x.chart(0), -1);
        Desk.due("choices ahead of any chart", x.choices(0), 0);
        Desk.due("choices ahead of any chart", x.choices(1), 0);
        Desk.due("warning without a system", x.warning(0, 0), -1);
        for (int what = 0; what <= 18; what++) {
            Desk.due("count " + what + " of a new object", x.count(what), 0);
        }
        Desk.due("count of another what", x.count(19), -1);
        Desk.due("count of another what", x.count(-1), -1);
    }

    private static void feeding() {
        ExchangeHouse x = new ExchangeHouse();
        for (int i = 1; i <= 250; i++) {
            Desk.due("feed " + i, x.feed(0x20202020, 0x20202020, 0x20202020, 0x20202020, 0x20202020), true);
            Desk.due("bytes", x.count(14), 20 * i);
        }
        Desk.due("feed of a full tape", x.feed(0, 0, 0, 0, 0), false);
        Desk.due("bytes of a full tape", x.count(14), 5000);
        Desk.due("load of blanks", x.load(5000), 1);
        Desk.due("its place is the end", x.place(), 5000);
        Desk.due("the tape is empty then", x.count(14), 0);
        Desk.due("feed again", x.feed(0x73696700, 0, 0, 0, 0), true);
        Desk.due("the highest byte is the first", x.load(4), 1);
        Desk.due("sig is a name, which begins no text", x.place(), 0);
    }

    /** Nothing of a text is left to the ones behind it, with faults or without. */
    private static void oneTextBehindAnother() {
        String large = "signal s, u; route r env -> p with s; route r2 env -> p with u; process p 1..1 (k: int); var x: int; timer t; "
            + "start; l: next a; state a; input s; next -; save *; none; join l; when x > 5; stop; state b; save s, t; end;";
        String other = "signal v, s; route w env -> q with v, s; process q 1..2; timer y; start; l: k: next a; state a; input v; join l; none; join k; end;";
        String small = "signal s; route r env -> p with s; process p 1..1; start; create p; stop; state a; none; l: next a; end;";
        Desk desk = new Desk();
        ExchangeHouse x = desk.house;
        for (int i = 0; i < 4; i++) {
            Desk.due("large", desk.load(large), 0);
            Desk.due("a fault", desk.load(large + "process p 1..1; start; l: stop; end;"), 3);
            Desk.due("cells", x.type(0, 1), 2);
            Desk.due("a fault in the midst of a type", desk.load("process p 1..1; start; decide (1; "), 1);
            Desk.due("its place", x.place(), 32);
            Desk.due("other", desk.load(other), 0);
            Desk.due("routes", x.count(1), 1);
            Desk.due("cells", x.type(0, 1), 0);
            Desk.due("timers", x.type(0, 2), 1);
            x.begin(1);
            Desk.due("start", x.run(2), 1);
            x.put(1, 1, 0, 0, 0);
            Desk.due("what a text ahead told of a state is gone", x.instance(1, 6), 3);
            Desk.due("its none", x.none(1, 0), 1);
            Desk.due("no other", x.none(1, 1), 0);
            Desk.due("small", desk.load(small), 0);
            Desk.due("types", x.count(2), 1);
            Desk.due("states", x.type(0, 0), 1);
        }
    }

    private static void loading() {
        Desk desk = new Desk();
        ExchangeHouse x = desk.house;
        desk.feed(Desk.bytes(SMALL));
        Desk.due("load of too many", x.load(41), -2);
        Desk.due("load of less than none", x.load(-1), -2);
        Desk.due("changes nothing", x.count(14), 40);
        Desk.due("nor the place", x.place(), -1);
        Desk.due("load", x.load(SMALL.length()), 0);
        Desk.due("types", x.count(2), 1);
        Desk.due("begin", x.begin(7), 1);
        Desk.due("load of nothing", x.load(0), 1);
        Desk.due("its place", x.place(), 0);
        Desk.due("a fault leaves the run", x.count(5), 1);
        Desk.due("a fault leaves the system", x.count(2), 1);
        Desk.due("a fault", desk.load("signal a, b, a;"), 3);
        Desk.due("its place", x.place(), 13);
        Desk.due("the run is still there", x.run(1), 1);
        Desk.due("a good text", desk.load("signal a;"), 0);
        Desk.due("place is of the latest one that answered a fault", x.place(), 13);
        Desk.due("there is no run", x.run(1), -1);
        Desk.due("the system is another one", x.count(2), 0);
        Desk.due("the system is another one", x.count(0), 1);
        Desk.due("a run without instances", x.begin(1), 0);
        Desk.due("which rests", x.run(5), 0);
    }
}
