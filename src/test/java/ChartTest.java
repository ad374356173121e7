/** Promises 26 and 27: chart, choices. */
public final class ChartTest {
    private static final String SYSTEM = "signal s(int), u, v; route r p -> q with s, u; route b q -> p with u; route o q -> env with v; route e env -> p with v; route m p -> p with v; "
        + "process p 1..1; start; next a; state a; input v; output s(1); next -; input u; next -; none; output v via m; next -; end; "
        + "process q 1..1; start; next a; state a; input s; output u to sender; output v; next -; end;";
    private static final String TWO = "chart; inst x = 1; inst y = 2; ";

    public static void main(String[] args) {
        syntax();
        room();
        names();
        without();
        keeping();
        altAndOpt();
        within();
        manyChoices();
        oneBehindAnother();
        toItself();
        Desk.close("ChartTest");
    }

    /** A run in which v came from env, s went to 2, u came back, v went to env. */
    private static Desk talked() {
        Desk desk = Desk.started(SYSTEM, 1);
        desk.house.run(2);
        desk.house.put(2, 1, 0, 0, 0);
        desk.house.run(9);
        return desk;
    }

    private static void fault(int number, String marked) {
        Desk desk = talked();
        int place = marked.indexOf('@');
        Desk.due("fault of " + marked, desk.chart(marked.substring(0, place) + marked.substring(place + 1)), -10 - number);
        Desk.due("place of " + marked, desk.house.place(), place);
        Desk.due("no choices by " + marked, desk.house.choices(0), 0);
        Desk.due("the tape is empty", desk.house.count(14), 0);
    }

    private static void syntax() {
        fault(1, "@");
        fault(1, "chart@");
        fault(1, "@signal s;");
        fault(1, "chart; @;");
        fault(1, "chart; inst @env = 1;");
        fault(1, "chart; inst x @1;");
        fault(1, "chart; inst x = @x;");
        fault(1, "chart; inst x = 1@");
        fault(1, "chart; inst x = @1234567890;");
        fault(1, TWO + "x @y : s;");
        fault(1, TWO + "x -> @: s;");
        fault(1, TWO + "x -> y @s;");
        fault(1, TWO + "x -> y : @env;");
        fault(1, TWO + "alt x -> y : s; @end;");
        fault(1, TWO + "alt x -> y : s; or@");
        fault(1, TWO + "opt x -> y : s; @or end;");
        fault(1, TWO + "opt end@");
        fault(1, TWO + "@end;");
        fault(1, TWO + "@or");
        fault(1, TWO + "alt opt @or end; or end;");
    }

    private static String repeat(String part, int n) {
        StringBuilder text = new StringBuilder();
        for (int i = 0; i < n; i++) {
            text.append(part.replace("%", Integer.toString(i)));
        }
        return text.toString();
    }

    private static void room() {
        fault(2, "chart; inst x = 1; " + repeat("x -> env : s; ", 40) + "@x -> env : s;");
        fault(2, "chart; inst x = 1; " + repeat("env -> env : s; ", 40) + "opt @env -> x : s; end;");
        fault(2, "chart; " + repeat("inst x% = 1; ", 8) + "inst @y = 1;");
        fault(2, "chart; " + repeat("opt end; ", 6) + "@opt end;");
        fault(2, "chart; " + repeat("alt or end; ", 6) + "@alt or end;");
        fault(2, "chart; opt alt opt @opt end; end; or end; end;");
        fault(2, "chart; alt or or or @or end;");
        Desk.due("all that there is room for", talked().chart("chart; " + repeat("inst x% = 9; ", 8) + "opt alt opt end; or or or end; end; " + repeat("opt end; ", 3)
            + repeat("env -> env : s; ", 40)), 1);
    }

    private static void names() {
        fault(3, "chart; inst x = 1; inst @x = 2;");
        fault(4, "chart; inst x = 1; x -> @y : s; inst y = 2;");
        fault(4, "chart; inst x = 1; @y -> x : s;");
        fault(4, "chart; inst x = 1; x -> x : @w;");
        fault(4, "chart; inst x = 1; x -> x : @x;");
        fault(4, "chart; inst x = 1; opt @y -> x : w; end; inst x = 1;");
        fault(3, "chart; inst x = 1; inst @x = 1; x -> y : w;");
        Desk.due("a name may be a signal's", talked().chart("chart; inst s = 7; s -> env : s;"), 0);
    }

    private static void without() {
        Desk desk = new Desk();
        ExchangeHouse x = desk.house;
        Desk.due("no run", desk.chart("chart;"), -1);
        Desk.due("the tape is empty", x.count(14), 0);
        Desk.due("load", desk.load(SYSTEM), 0);
        Desk.due("no run", desk.chart("chart; nonsense"), -1);
        Desk.due("no place", x.place(), -1);
        x.begin(1);
        x.feed(0, 0, 0, 0, 0);
        Desk.due("too many", x.chart(21), -2);
        Desk.due("less", x.chart(-1), -2);
        Desk.due("the tape stays", x.count(14), 20);
        Desk.due("another what", x.choices(2), -1);
        Desk.due("another what", x.choices(-1), -1);
        Desk.due("zeros are no chart", x.chart(20), -11);
        Desk.due("an empty one", desk.chart("chart;"), 1);
        Desk.due("no lines", x.choices(0), 0);
        Desk.due("one choice", x.choices(1), 1);
    }

    private static void keeps(String chart, int lines, int choices) {
        Desk desk = talked();
        Desk.due("kept: " + chart, desk.chart(chart), choices > 0 ? 1 : 0);
        Desk.due("lines of " + chart, desk.house.choices(0), lines);
        Desk.due("choices of " + chart, desk.house.choices(1), choices);
    }

    private static void keeping() {
        keeps(TWO + "env -> x : v; x -> y : s; y -> x : u; y -> env : v;", 4, 1);
        keeps(TWO + "x -> y : s; env -> x : v; y -> x : u; y -> env : v;", 4, 0);
        keeps(TWO + "env -> x : v; x -> y : s; y -> env : v; y -> x : u;", 4, 0);
        keeps(TWO + "env -> x : v; x -> y : s; y -> x : u;", 3, 0);
        keeps(TWO + "x -> y : s; y -> x : u;", 2, 1);
        keeps(TWO + "x -> y : s;", 1, 1);
        keeps(TWO + "x -> y : s; x -> y : s;", 2, 0);
        keeps(TWO + "y -> x : s;", 1, 0);
        keeps(TWO + "x -> env : s;", 1, 0);
        keeps(TWO, 0, 1);
        // What two insts of different orders did is not compared.
        keeps(TWO + "y -> env : v; env -> x : v;", 2, 1);
        // An inst without lines must have done nothing that is named.
        keeps("chart; inst y = 2; y -> env : v; inst x = 1;", 1, 0);
        keeps("chart; inst y = 2; y -> env : v;", 1, 1);
        keeps("chart; inst y = 2; inst w = 1; w -> y : s; inst z = 3;", 1, 1);
        keeps("chart; inst y = 2; env -> env : s;", 1, 0);
        keeps("chart; inst n = 0; inst y = 2; y -> n : v;", 1, 0);
        keeps("chart; inst y = 2; y -> env : u; y -> env : v;", 2, 0);
    }

    private static void altAndOpt() {
        keeps(TWO + "opt x -> y : s; end;", 1, 1);
        keeps(TWO + "x -> y : s; opt x -> y : s; end;", 2, 1);
        keeps(TWO + "x -> y : s; opt end;", 1, 2);
        keeps(TWO + "alt x -> y : s; or y -> x : s; end;", 2, 1);
        keeps(TWO + "alt y -> x : s; or x -> y : s; or x -> y : s; end;", 3, 2);
        keeps(TWO + "alt y -> x : s; or env -> x : s; end;", 2, 0);
        // Signals of rows that are not chosen count, too.
        keeps(TWO + "x -> y : s; opt y -> x : u; x -> y : u; end;", 3, 0);
        keeps(TWO + "x -> y : s; alt y -> x : u; or end;", 2, 1);
        keeps(TWO + "alt or x -> y : s; end; opt y -> x : u; end; alt or y -> env : v; env -> x : v; end;", 4, 0);
        keeps(TWO + "alt or env -> x : v; x -> y : s; end; opt y -> x : u; end; alt or y -> env : v; end;", 4, 1);
    }

    private static void within() {
        keeps(TWO + "opt opt x -> y : s; end; end;", 1, 1);
        // By the outer row that is not chosen the inner one's choice is free.
        keeps(TWO + "x -> y : s; opt y -> x : s; opt end; end;", 2, 2);
        keeps(TWO + "x -> y : s; opt y -> x : s; alt opt end; or or end; end;", 2, 6);
        keeps(TWO + "alt alt x -> y : s; or y -> x : u; end; or y -> x : s; end;", 3, 0);
        keeps(TWO + "alt alt x -> y : s; or y -> x : u; end; y -> x : u; or y -> x : s; end;", 4, 1);
        keeps("chart; opt inst x = 1; inst y = 2; end; x -> y : s;", 1, 2);
    }

    private static void manyChoices() {
        keeps(TWO + "x -> y : s; " + repeat("alt or or or end; ", 4) + "opt end; opt end;", 1, 1000);
        keeps(TWO + "x -> y : s; " + repeat("alt or or or end; ", 4) + "opt end;", 1, 512);
        // With the first alt's rows last the one that keeps it is beyond the first 1000.
        keeps(TWO + "alt or or or x -> y : s; end; " + repeat("alt or or or end; ", 5), 1, 0);
        keeps(TWO + "alt or or or x -> y : s; end; " + repeat("alt or or or end; ", 4), 1, 232);
        keeps(TWO + "alt x -> y : s; or or or end; " + repeat("alt or or or end; ", 5), 1, 1000);
        keeps(TWO + repeat("alt or or or end; ", 4) + "alt or or or x -> y : s; end;", 1, 250);
    }

    /** A chart of which not all choices were looked at leaves nothing to the next one. */
    private static void oneBehindAnother() {
        Desk desk = talked();
        Desk.due("many", desk.chart(TWO + repeat("alt or or or end; ", 6)), 1);
        Desk.due("another", desk.chart(TWO + "alt x -> y : s; or or or end; " + repeat("alt or or or end; ", 5)), 1);
        Desk.due("the first 1000", desk.house.choices(1), 1000);
    }

    private static void toItself() {
        Desk desk = Desk.started(SYSTEM, 1);
        ExchangeHouse x = desk.house;
        x.run(2);
        x.none(1, 0);
        x.none(1, 0);
        Desk.due("sent, sent", desk.chart("chart; inst x = 1; x -> x : v; x -> x : v;"), 0);
        Desk.due("lines", x.choices(0), 2);
        x.begin(1);
        x.run(2);
        x.none(1, 0);
        x.run(9);
        Desk.due("sent, then taken", desk.chart("chart; inst x = 1; x -> x : v;"), 1);
        Desk.due("its other signals", desk.chart("chart; inst x = 1; inst y = 2; x -> x : v; y -> env : v;"), 1);
        Desk.due("a fault leaves the choices", desk.chart("chart"), -11);
        Desk.due("lines", x.choices(0), 2);
        Desk.due("choices", x.choices(1), 1);
        x.begin(1);
        Desk.due("so does begin", x.choices(0), 2);
        Desk.due("nothing came yet", desk.chart("chart; inst x = 1; opt x -> x : v; end;"), 1);
        Desk.due("choices", x.choices(1), 1);
    }
}
