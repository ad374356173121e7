import java.util.Random;

/** One object that reads text behind text, run behind run, chart behind chart answers as a new one does. */
public final class ReuseTest {
    private static final String[] TEXTS = {
        "signal s;",
        "signal a, b(int), c(bool, pid);",
        "signal s, t; route r env -> env with s, t; route q env -> env delay 1 .. 3 with t;",
        "process p 1..1; start; stop; end;",
        "process p 2..3 (k: int); var x: int[3]; timer t; start; l: x[k] := 1; set t 2; next a; state a, b; input t; join l; none; next b; when x[0] > 5 prio 2; stop; end;",
        "  process p 2..3 (k: int); var x: int[3]; timer t; start; l: x[k] := 1; set t 2; next a; state a, b; input t; join l; none; next b; when x[0] > 5 prio 2; stop; end;",
        "process q 1..1; var x: bool; var k: pid; start; x := k = null; next z; state z, b, a; save *; none; next a; none; next b; end; process p 1..2; timer x; start; l: m: next a; state a; input x; join l; end;",
        "signal s(int), u; route r env -> p with s; route o p -> q with u; process p 1..1; var n: int; start; next a; state a; input s(n); output u; next -; end; process q 1..1; start; next a; state a; input u; stop; end;",
        "signal u, s(int); route r env -> q with s; route o q -> p with u; process q 1..1; var m: int; var n: int; start; next b; state b, a; input s(n); output u; next a; end; process p 1..1; start; next a; state a; save u; end;",
        "signal s; route r env -> p with s; process p 3..3; start; create q; next a; state a; input s; stop; end; process q 0..2; start; next a; state a; none; create p; next -; end;",
        // With faults of each kind, some of them in the midst of something.
        "signal", "process p 1..1; start; decide (1 + (2; ", "process p 1..1; var x: int; start; decide x; 1: decide x; 1, 2, 3: ?", "signal s(int, int, int, int);", "process p 1..1; var a: int[8]; var b: int[8]; var c: int; start; stop; end;",
        "signal s, s;", "process p 1..1; start; l: l: stop; end;", "process p 1..1; var x: int; start; x := y; stop; end;", "process p 1..1; var x: int; start; x := true; stop; end;", "process p 1..1; var x: int; start; decide x; 1: stop; end; end;",
        "signal s; process p 1..1; start; stop; state a; input s; stop; save s; end;", "route r env -> p with s;",
    };
    private static final String[] CHARTS = {"chart;", "chart; inst x = 1;", "chart; alt", "chart; opt opt end; end; alt or or end;", "chart; inst x = 1; inst y = 2; x -> y : u;", "chart; inst x = 1; env -> x : s; opt x -> env : u; end;", "chart; end;", "chart; or", "chart; inst x = 1; inst x = 2;"};

    public static void main(String[] args) {
        for (int seed = 0; seed < 60; seed++) {
            behindOneAnother(new Random(seed));
        }
        pairs();
        routesOfBefore();
        largeTexts();
        Desk.close("ReuseTest");
    }

    /** What a system does, its warnings included. */
    private static String life(Desk desk, int n) {
        ExchangeHouse x = desk.house;
        StringBuilder text = new StringBuilder("begin " + x.begin(n));
        text.append(" system ").append(Desk.row(0, 3, x::count)).append(Desk.row(0, 4, what -> x.type(0, what))).append(Desk.row(0, 2, i -> x.warning(i, 1)));
        text.append(" run ").append(x.run(5)).append(" put ").append(Desk.row(0, 2, s -> x.put(s, 1 + n % 2, 7, 1, 1)));
        text.append(" run ").append(x.run(3)).append(' ').append(x.none(1, 0)).append(x.none(2, 1)).append(" search ").append(x.search(20));
        text.append(" chart ").append(desk.chart(CHARTS[n % CHARTS.length])).append(' ').append(Desk.row(4, 18, x::count));
        text.append(Desk.row(0, 3, k -> x.cell(1, k))).append(Desk.row(0, 6, what -> x.instance(2, what))).append(desk.event(x.count(13) - 1));
        return text.toString();
    }

    private static void behindOneAnother(Random random) {
        Desk desk = new Desk();
        String latest = "";
        for (int k = 0; k < 5; k++) {
            String text = TEXTS[random.nextInt(TEXTS.length)];
            int answer = desk.load(text);
            Desk fresh = new Desk();
            Desk.due("load of " + text, answer, fresh.load(text));
            if (answer != 0) {
                Desk.due("place in " + text, desk.house.place(), fresh.house.place());
            } else {
                latest = text;
            }
            if (!latest.isEmpty()) {
                int n = random.nextInt(50);
                Desk other = new Desk();
                other.load(latest);
                Desk.same("life of " + latest, life(desk, n), life(other, n));
            }
        }
    }

    /** Each text behind each other, with a third between them, as texts are read into two places in turn. */
    private static void pairs() {
        for (String first : TEXTS) {
            for (String second : TEXTS) {
                Desk desk = new Desk();
                desk.load(first);
                desk.load("signal other;");
                Desk fresh = new Desk();
                int answer = fresh.load(second);
                Desk.due("load of " + second + " behind " + first, desk.load(second), answer);
                // With a fault the one between them stays, a signal of which there are two warnings.
                String want = answer == 0 ? Desk.row(0, 3, fresh.house::count) : "1 0 0 2";
                Desk.same("counts of " + second + " behind " + first, Desk.row(0, 3, desk.house::count), want);
            }
        }
    }

    /** A route, a signal's sorts, a state's rows of a text before are gone. */
    private static void routesOfBefore() {
        String before = "signal s(int), u(bool); route r env -> p with s, u; route q p -> p with s, u; process p 1..1; start; next a; state a; input s, u; next b; none; output s(1); next -; state b; save *; end;";
        String behind = "signal s, u; route r env -> p with u; process p 1..1; start; next a; state a; none; output s; next -; end;";
        Desk desk = new Desk();
        Desk.due("load", desk.load(before), 0);
        Desk.due("load", desk.load("signal k;"), 0);
        Desk.due("load", desk.load(behind), 0);
        ExchangeHouse x = desk.house;
        x.begin(1);
        x.run(1);
        Desk.due("no route carries s", x.put(0, 1, 5, 5, 5), 0);
        Desk.due("one carries u", x.put(1, 1, 5, 5, 5), 1);
        Desk.same("u has no value", Desk.row(0, 4, what -> x.queued(1, 0, what)), "1 0 0 0 0");
        Desk.due("nothing tells u", x.instance(1, 6), 3);
        Desk.due("none", x.none(1, 0), 1);
        Desk.due("no way for s", x.count(9), 3);
    }

    /** The same large text again and again. */
    private static void largeTexts() {
        StringBuilder text = new StringBuilder("signal a");
        StringBuilder names = new StringBuilder("a");
        for (char c = 'b'; c <= 't'; c++) {
            text.append(',').append(c);
            names.append(',').append(c);
        }
        text.append(";route x env->xx with t;process xx 1..1;start;next z11;");
        for (int k = 0; k < 12; k++) {
            text.append("state z").append(k).append(";save ").append(names).append(";none;next z").append((k + 1) % 12).append(";");
        }
        text.append("end;process yy 1..1;start;next y11;");
        for (int k = 0; k < 12; k++) {
            text.append("state y").append(k).append(";save ").append(names).append(";");
        }
        text.append("end;");
        Desk desk = new Desk();
        ExchangeHouse x = desk.house;
        for (int i = 0; i < 5; i++) {
            Desk.due("load " + i, desk.load(text.toString()), 0);
            x.begin(1);
            x.run(2);
            x.put(19, 1, 0, 0, 0);
            Desk.due("saved " + i, x.instance(1, 6), 0);
            x.none(1, 0);
            Desk.due("saved in the next state " + i, x.instance(1, 6), 0);
            Desk.due("state " + i, x.instance(2, 1), 11);
        }
    }
}
