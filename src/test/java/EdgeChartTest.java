/** The boundaries of CHARTS: each limit and one more, which fault is told, the 1000 choices, the latest 500 events. */
public final class EdgeChartTest {
    private static final String KEYWORDS = "signal route process var timer start state input save when none next stop join output set reset create decide else end "
        + "to via with delay env if prio int bool pid true false null self sender parent offspring now active waiting not and or chart inst alt opt";
    /** Instance 1 sends s to 2 as often as asked; 2 takes it. */
    private static final String SENDER = "signal s(int), u, v; route r p -> q with s, u; route b q -> p with u; route o p -> env with v; process p 1..1; start; next a; state a; none; output s(1); next -; none; output v; next -; input u; next -; end; "
        + "process q 1..1; start; next a; state a; input s; next -; none; output u; next -; end;";
    private static final String TWO = "chart; inst x = 1; inst y = 2; ";
    private static final String LINE = "x -> y : s; ";

    public static void main(String[] args) {
        lines();
        insts();
        points();
        nesting();
        rows();
        tokens();
        everyToken();
        order();
        refused();
        choices();
        thousand();
        latestEvents();
        others();
        numbers();
        whichSignals();
        toItself();
        rowsInRows();
        oneBehindAnother();
        Desk.close("EdgeChartTest");
    }

    /** A run in which s went from 1 to 2 n times. */
    private static Desk sent(int n) {
        Desk desk = Desk.started(SENDER, 1);
        desk.house.run(2);
        for (int i = 0; i < n; i++) {
            desk.house.none(1, 0);
            desk.house.run(1);
        }
        return desk;
    }

    private static void fault(int number, String marked) {
        Desk desk = sent(1);
        int place = marked.indexOf('@');
        Desk.due("fault of " + marked, desk.chart(marked.substring(0, place) + marked.substring(place + 1)), -10 - number);
        Desk.due("place of " + marked, desk.house.place(), place);
    }

    private static void keeps(Desk desk, String chart, int lines, int choices) {
        Desk.due("kept: " + chart, desk.chart(chart), choices > 0 ? 1 : 0);
        Desk.due("lines of " + chart, desk.house.choices(0), lines);
        Desk.due("choices of " + chart, desk.house.choices(1), choices);
    }

    private static void lines() {
        keeps(sent(40), TWO + Desk.repeat(LINE, 40), 40, 1);
        keeps(sent(39), TWO + Desk.repeat(LINE, 40), 40, 0);
        keeps(sent(41), TWO + Desk.repeat(LINE, 40), 40, 0);
        keeps(sent(40), TWO + Desk.repeat(LINE, 39), 39, 0);
        keeps(sent(0), TWO, 0, 1);
        fault(2, TWO + Desk.repeat(LINE, 40) + "@" + LINE);
        fault(2, TWO + Desk.repeat(LINE, 40) + "@env -> x : s;");
        fault(2, TWO + Desk.repeat(LINE, 20) + "opt " + Desk.repeat(LINE, 20) + "@" + LINE + "end;");
        fault(2, TWO + "alt " + Desk.repeat(LINE, 20) + "or " + Desk.repeat(LINE, 20) + "end; @" + LINE);
        // insts, alts and opts are no lines of ->.
        keeps(sent(40), TWO + Desk.repeat(LINE, 40) + "inst z = 3; opt end; alt or end;", 40, 4);
    }

    private static void insts() {
        keeps(sent(0), "chart; " + Desk.repeat("inst x% = 1; ", 8), 0, 1);
        fault(2, "chart; " + Desk.repeat("inst x% = 1; ", 8) + "inst @y = 1;");
        fault(2, "chart; " + Desk.repeat("opt inst x% = 1; end; ", 6) + "inst y = 1; inst z = 2; inst @w = 3;");
        fault(2, "chart; " + Desk.repeat("inst x% = 1; ", 8) + "inst @x0 = 1;");
        fault(1, "chart; " + Desk.repeat("inst x% = 1; ", 8) + "inst @= 1;");
    }

    private static void points() {
        keeps(sent(0), "chart; " + Desk.repeat("opt end; ", 6), 0, 64);
        keeps(sent(0), "chart; " + Desk.repeat("alt or end; ", 6), 0, 64);
        keeps(sent(0), "chart; " + Desk.repeat("alt or end; opt end; ", 3), 0, 64);
        fault(2, "chart; " + Desk.repeat("opt end; ", 6) + "@opt end;");
        fault(2, "chart; " + Desk.repeat("alt or end; ", 6) + "@alt or end;");
        fault(2, "chart; " + Desk.repeat("alt or end; ", 3) + Desk.repeat("opt end; ", 3) + "@alt or end;");
        fault(2, "chart; " + Desk.repeat("opt alt or end; end; ", 3) + "@opt end;");
        fault(2, "chart; opt opt end; opt end; opt end; opt end; opt end; @opt end; end;");
    }

    private static void nesting() {
        keeps(sent(0), "chart; opt opt opt end; end; end;", 0, 8);
        keeps(sent(0), "chart; alt alt alt or end; or end; or end;", 0, 8);
        keeps(sent(0), "chart; alt or alt or opt end; end; end;", 0, 8);
        keeps(sent(0), "chart; opt opt opt end; opt end; end; opt opt end; end; end;", 0, 64);
        fault(2, "chart; opt opt opt @opt end; end; end; end;");
        fault(2, "chart; alt alt alt @alt or end; or end; or end; or end;");
        fault(2, "chart; alt or opt alt or @opt");
        fault(2, "chart; opt opt opt end; opt @opt end; end; end; end;");
    }

    private static void rows() {
        keeps(sent(0), "chart; alt or or or end;", 0, 4);
        fault(2, "chart; alt or or or @or end;");
        fault(2, "chart; alt or or or alt or or or end; @or end;");
        fault(1, "chart; alt @end;");
        fault(1, "chart; opt @or end;");
        keeps(sent(0), "chart; alt or end;", 0, 2);
    }

    private static void tokens() {
        for (String word : KEYWORDS.split(" ")) {
            fault(1, "chart; inst @" + word + " = 1;");
            fault(1, TWO + "x -> y : @" + word + ";");
            if (!word.equals("env")) {
                fault(1, TWO + "x -> @" + word + " : s;");
            }
        }
        keeps(sent(0), "chart;inst abcdefghij=1;#note", 0, 1);
        fault(1, "chart; inst @abcdefghijk = 1;");
        keeps(sent(0), "chart; inst x = 000000001; inst y = 999999999;", 0, 1);
        fault(1, "chart; inst x = @0000000001;");
        fault(1, "chart; inst x = @1y;");
        fault(1, "chart; inst x = @-1;");
        fault(1, "chart; inst x @:= 1;");
        fault(1, "chart; inst x =@= 1;");
    }

    /** At each token the end, and what is none. */
    private static void everyToken() {
        String all = "chart ; inst x = 1 ; inst y = 2 ; x -> y : s ; env -> x : u ; alt x -> env : v ; or opt inst z = 3 ; end ; or end ; opt y -> y : s ; alt or end ; end ; z -> z : u ;";
        StringBuilder before = new StringBuilder();
        int depth = 0;
        boolean whole = false;
        for (String part : all.split(" ")) {
            if (!whole) {
                fault(1, before + "@");
            }
            fault(1, before + "@? " + part);
            fault(1, before + "@signal " + part);
            fault(1, before + "@1a " + part);
            before.append(part).append(' ');
            depth += part.equals("alt") || part.equals("opt") ? 1 : part.equals("end") ? -1 : 0;
            whole = part.equals(";") && depth == 0;
        }
        Desk desk = sent(0);
        Desk.due("the whole chart", desk.chart(before.toString()) >= 0, true);
    }

    private static void order() {
        // SYNTAX and ROOM by place, the others only without them.
        fault(1, "chart; inst x = 1; inst x = 1; y -> x : w; @;");
        fault(2, "chart; inst x = 1; inst x = 1; y -> x : w; opt opt opt @opt ;");
        fault(2, "chart; opt opt opt @opt ; ;");
        fault(1, "chart; @; opt opt opt opt");
        fault(2, TWO + Desk.repeat(LINE, 40) + "@x y");
        fault(3, "chart; inst x = 1; inst @x = 1; y -> x : w;");
        fault(4, "chart; inst x = 1; @y -> x : w; inst x = 1;");
        fault(4, "chart; inst x = 1; x -> @y : w; inst x = 1;");
        fault(4, "chart; inst x = 1; x -> x : @w; inst x = 1;");
        fault(3, "chart; inst x = 1; inst y = 1; inst @x = 2; inst y = 2;");
        fault(3, "chart; opt inst x = 1; end; alt or inst @x = 2; end;");
        // Told ahead, in whatever row; a signal's name is none of an inst, nor the other way round.
        fault(4, "chart; @x -> env : s; inst x = 1;");
        fault(4, "chart; @s -> env : s;");
        fault(4, "chart; inst x = 1; x -> env : @x;");
        fault(4, "chart; inst x = 1; x -> env : @p;");
        fault(4, "chart; inst x = 1; x -> env : @r;");
        Desk.due("an inst of a signal's name", sent(0).chart("chart; inst s = 1; s -> env : s;"), 0);
        Desk.due("told in another row", sent(0).chart("chart; alt inst x = 1; or x -> env : s; end;"), 1);
    }

    private static void refused() {
        Desk desk = sent(1);
        ExchangeHouse x = desk.house;
        keeps(desk, TWO + LINE, 1, 1);
        desk.feed(Desk.bytes(TWO));
        int bytes = x.count(14);
        String before = desk.look();
        for (int n : new int[] {-1, bytes + 1, Integer.MIN_VALUE, Integer.MAX_VALUE}) {
            Desk.due("chart of " + n, x.chart(n), -2);
        }
        Desk.same("that changes nothing", desk.look(), before);
        Desk.due("the tape has the chart still", x.chart(TWO.length()), 1);
        Desk.due("it is empty then", x.count(14), 0);
        Desk.due("lines", x.choices(0), 0);
        Desk.due("no bytes are left", x.chart(1), -2);
        Desk.due("none are a text", x.chart(0), -11);
        Desk.due("whose end is 0", x.place(), 0);
    }

    /** choices() is of the latest chart() that answered 0 or 1. */
    private static void choices() {
        Desk desk = sent(1);
        ExchangeHouse x = desk.house;
        Desk.same("ahead of any", Desk.row(-1, 2, x::choices), "-1 0 0 -1");
        Desk.due("a fault", desk.chart("chart"), -11);
        Desk.same("ahead of any without a fault", Desk.row(-1, 2, x::choices), "-1 0 0 -1");
        keeps(desk, TWO + LINE + "opt end;", 1, 2);
        Desk.due("a fault", desk.chart(TWO + LINE + LINE + "x -> y : w;"), -14);
        Desk.same("a fault leaves them", Desk.row(-1, 2, x::choices), "-1 1 2 -1");
        Desk.due("a wrong n", x.chart(99), -2);
        Desk.same("a wrong n leaves them", Desk.row(-1, 2, x::choices), "-1 1 2 -1");
        keeps(desk, TWO + LINE + LINE, 2, 0);
        Desk.due("another what", x.choices(Integer.MAX_VALUE), -1);
        Desk.due("another what", x.choices(Integer.MIN_VALUE), -1);
    }

    /** Five alts of four rows, and an opt or not; each has its line in one row. */
    private static String combined(int... rows) {
        StringBuilder text = new StringBuilder(TWO);
        for (int row : rows) {
            text.append("alt ");
            for (int k = 0; k < 4; k++) {
                text.append(k == 0 ? "" : "or ").append(k == row ? LINE : "");
            }
            text.append("end; ");
        }
        return text.toString();
    }

    private static void thousand() {
        // Of 1024 choices number 999, which is 3 3 2 1 3 by fours, is the last that is looked at.
        keeps(sent(5), combined(3, 3, 2, 1, 3), 5, 1);
        keeps(sent(5), combined(3, 3, 2, 2, 0), 5, 0);
        keeps(sent(5), combined(3, 3, 3, 3, 3), 5, 0);
        keeps(sent(5), combined(0, 0, 0, 0, 0), 5, 1);
        keeps(sent(5), combined(2, 3, 3, 3, 3), 5, 1);
        // Of 768 choices, and of just less than 1000, all are looked at.
        keeps(sent(4), combined(3, 3, 3, 3) + "alt or or end; ", 4, 3);
        keeps(sent(0), "chart; " + Desk.repeat("alt or or or end; ", 5), 0, 1000);
        keeps(sent(0), "chart; " + Desk.repeat("alt or or or end; ", 6), 0, 1000);
        keeps(sent(0), "chart; " + Desk.repeat("alt or or or end; ", 4) + "alt or or end; ", 0, 768);
        keeps(sent(0), "chart; " + Desk.repeat("alt or or end; ", 6), 0, 729);
        keeps(sent(0), "chart; " + Desk.repeat("alt or or end; ", 5) + "alt or or or end;", 0, 972);
        // An opt's row is the first of its two, nothing the second.
        keeps(sent(5), combined(3, 3, 2, 1, 3) + "opt end; ", 5, 0);
        keeps(sent(6), combined(1, 3, 2, 2, 3) + "opt " + LINE + "end; ", 6, 1);
        // 999 is 1 3 3 0 3 by fours, and 1 of an opt: nothing; 998 has its row.
        keeps(sent(5), combined(1, 3, 3, 0, 3) + "opt y -> x : s; end; ", 6, 1);
        keeps(sent(6), combined(1, 3, 3, 0, 3) + "opt " + LINE + "end; ", 6, 1);
        keeps(sent(6), combined(1, 3, 3, 1, 0) + "opt " + LINE + "end; ", 6, 0);
        keeps(sent(5), combined(1, 3, 3, 1, 0) + "opt y -> x : s; end; ", 6, 0);
    }

    /** Of the trace there are the latest 500: what is not in it any more does not count. */
    private static void latestEvents() {
        String text = "signal s, k; route r p -> env with s, k; process p 1..1; var n: int; start; output s; next a; state a; when n < 999; n := n + 1; next -; none; output s; next -; end;";
        Desk desk = Desk.started(text, 1);
        ExchangeHouse x = desk.house;
        String one = "chart; inst x = 1; x -> env : s;";
        String none = "chart; inst x = 1; opt x -> env : s; x -> env : s; end;";
        // Made, sent, out, begun: then 497 more make 501 events, of which the sent one is the first.
        x.run(1);
        keeps(desk, one, 1, 1);
        Desk.due("steps", x.run(497), 497);
        Desk.due("events", x.count(13), 500);
        Desk.due("the eldest is the sent one", x.event(0, 0), 1);
        keeps(desk, one, 1, 1);
        keeps(desk, none, 2, 0);
        x.run(1);
        Desk.due("the eldest is what was out", x.event(0, 0), 4);
        keeps(desk, one, 1, 0);
        keeps(desk, none, 2, 1);
        x.none(1, 0);
        keeps(desk, one, 1, 1);
    }

    /** Each event by its signal and the other instance. */
    private static void others() {
        Desk desk = sent(1);
        ExchangeHouse x = desk.house;
        x.none(1, 1);
        x.none(2, 0);
        x.run(1);
        keeps(desk, TWO + LINE + "x -> env : v; y -> x : u;", 3, 1);
        keeps(desk, TWO + LINE + "y -> x : u; x -> env : v;", 3, 0);
        keeps(desk, "chart; inst x = 1; x -> env : v;", 1, 1);
        keeps(desk, "chart; inst x = 1; inst y = 2; x -> y : v;", 1, 0);
        keeps(desk, "chart; inst x = 1; x -> env : s;", 1, 0);
        keeps(desk, "chart; inst y = 2; y -> env : u;", 1, 0);
        keeps(desk, "chart; inst y = 2; env -> y : s;", 1, 0);
        keeps(desk, "chart; env -> env : s;", 1, 1);
        keeps(desk, "chart;", 0, 1);
        keeps(desk, TWO, 0, 1);
        keeps(desk, TWO + "env -> env : s;", 1, 0);
        keeps(desk, "chart; inst z = 3; env -> env : s;", 1, 1);
    }

    /** Numbers of insts: none such, 0, the same one twice. */
    private static void numbers() {
        keeps(sent(1), "chart; inst x = 1; inst y = 3; x -> y : s;", 1, 0);
        keeps(sent(1), "chart; inst x = 1; inst y = 999999999; inst z = 0; opt x -> y : s; end;", 1, 0);
        keeps(sent(0), "chart; inst x = 1; inst y = 999999999; inst z = 0; opt x -> y : s; end;", 1, 1);
        keeps(sent(1), "chart; inst x = 1; inst y = 2; inst z = 2; x -> y : s;", 1, 0);
        keeps(sent(1), "chart; inst x = 1; inst y = 2; inst z = 2; alt x -> y : s; or x -> z : s; end;", 2, 0);
        keeps(sent(1), "chart; inst x = 1; inst y = 2; inst z = 2; x -> y : s; env -> z : u;", 2, 0);
        keeps(sent(0), "chart; inst x = 1; inst y = 1; x -> y : s;", 1, 0);
    }

    /** Signals that the chart names in rows that are not chosen count, and no others. */
    private static void whichSignals() {
        Desk desk = sent(1);
        desk.house.none(1, 1);
        keeps(desk, TWO + LINE, 1, 1);
        keeps(desk, TWO + LINE + "opt x -> env : v; end;", 2, 1);
        keeps(desk, TWO + LINE + "opt x -> env : v; x -> env : v; end;", 3, 0);
        keeps(desk, TWO + LINE + "alt x -> env : u; or end;", 2, 1);
        keeps(desk, TWO + LINE + "alt x -> env : v; or opt env -> env : u; end; end;", 3, 2);
    }

    /** Forty lines of one inst to itself are eighty events of it. */
    private static void toItself() {
        for (int n = 38; n <= 42; n++) {
            Desk desk = Desk.started("signal s; route r p -> p with s; process p 1..1; start; next a; state a; input s; next -; none; output s; next -; end;", 1);
            desk.house.run(1);
            for (int i = 0; i < n; i++) {
                desk.house.none(1, 0);
                desk.house.go(1);
            }
            String chart = "chart; inst x = 1; " + Desk.repeat("x -> x : s; ", 40);
            keeps(desk, chart, 40, n == 40 ? 1 : 0);
            keeps(desk, chart.replaceFirst("x -> x : s; ", "").replaceFirst("x -> x : s; ", "opt x -> x : s; end; "), 39, n == 39 || n == 38 ? 1 : 0);
        }
    }

    /** A line counts if all rows are chosen in which it stands. */
    private static void rowsInRows() {
        Desk desk = sent(1);
        keeps(desk, TWO + "opt opt opt " + LINE + "end; end; end;", 1, 1);
        keeps(desk, TWO + "alt or or end; opt opt " + LINE + "end; end;", 1, 3);
        keeps(desk, TWO + "alt or or end; opt opt opt " + LINE + "end; end; end;", 1, 3);
        keeps(desk, TWO + "opt opt end; end; alt or opt " + LINE + "end; or end;", 1, 4);
        keeps(desk, TWO + "alt or alt or or " + LINE + "end; end; opt end;", 1, 2);
        keeps(desk, TWO + "alt opt end; or opt end; " + LINE + "or opt end; end;", 1, 8);
        keeps(desk, TWO + "alt opt y -> x : s; end; or " + LINE + "or opt y -> x : s; end; end;", 3, 4);
        keeps(desk, TWO + "opt opt end; " + LINE + "opt end; end;", 1, 4);
        keeps(desk, TWO + "opt alt " + LINE + "or opt end; end; end; opt y -> x : s; end;", 2, 2);
    }

    /** Nothing of a chart is left to the next one, with a fault or without. */
    private static void oneBehindAnother() {
        Desk desk = sent(1);
        String[] faults = {"chart; alt", "chart; opt opt opt", "chart; alt or alt or", "chart; opt " + TWO.substring(7) + LINE + "?", TWO + Desk.repeat("opt end; ", 6) + "opt", "chart; inst x = 1; inst x = 1;"};
        for (String fault : faults) {
            Desk.due("a fault", desk.chart(fault) < -10, true);
            keeps(desk, "chart;", 0, 1);
            keeps(desk, TWO + LINE, 1, 1);
            Desk.due("an end without an alt or opt", desk.chart("chart; end;"), -11);
            Desk.due("its place", desk.house.place(), 7);
            Desk.due("an or without an alt", desk.chart("chart; or"), -11);
            Desk.due("its place", desk.house.place(), 7);
        }
        keeps(desk, TWO + "alt or or " + LINE + "end; alt or or or end;", 1, 4);
        keeps(desk, TWO + "opt " + LINE + "end; alt or end;", 1, 2);
        Desk.due("insts of the chart before are gone", desk.chart("chart; x -> y : s;"), -14);
        Desk.due("its place", desk.house.place(), 7);
        keeps(desk, "chart; inst y = 1; inst x = 2; y -> x : s;", 1, 1);
    }
}
