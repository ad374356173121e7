/** The boundaries of ROOM: of each as many as there may be, and one more; and which of two faults is told. */
public final class EdgeRoomTest {
    private static final String P = "process p 1..1; ";
    private static final String HEAD = "signal s, i(int), m(int, int, int); " + P + "var x: int; var y: bool; var a: int[3]; timer t; start; ";
    private static final String TAIL = " stop; end;";
    private static final String SHORT = "start; stop; end; ";

    public static void main(String[] args) {
        tokens();
        brackets();
        indexes();
        minusAndNot();
        decides();
        mixed();
        conditions();
        whatIsNotOpen();
        tables();
        eachTypeItsOwn();
        lists();
        ranges();
        numbers();
        cells();
        leftmost();
        Desk.close("EdgeRoomTest");
    }

    /** A whole text of n tokens, n being odd and 23 or more. */
    private static String ofTokens(int n) {
        StringBuilder text = new StringBuilder("signal s;process p 1..1;start;stop;end;route r env->p with s");
        for (int tokens = 23; tokens < n; tokens += 2) {
            text.append(",s");
        }
        return text + ";";
    }

    private static void tokens() {
        Desk.due("tokens", count(ofTokens(23)), 23);
        Desk.due("tokens", count(ofTokens(1199)), 1199);
        Desk.good(ofTokens(1199));
        Desk.fault(1, ofTokens(1199) + "route@");
        Desk.fault(2, ofTokens(1199) + "route @q env->env with s;");
        // 1197 and 3 tokens more are 1200; one more is too many, wherever it stands.
        String full = ofTokens(1197) + "signal u;";
        Desk.due("tokens of the full text", count(full), 1200);
        Desk.good(full);
        Desk.good(full + " # a note is none\n#another");
        Desk.fault(2, full + "@signal v;");
        Desk.fault(2, full + "@process");
        Desk.fault(2, full + "@route r? ?");
        // What no text goes on with has the same place, and the less number.
        Desk.fault(1, full + "@?");
        Desk.fault(1, full + "@;");
        Desk.fault(1, full + "@u");
        // A fault ahead of it is the first one; one of the other kinds is not asked then.
        Desk.fault(1, full.replace("signal u;", "signal @;") + "signal v;");
        Desk.fault(2, full.replace("signal u;", "signal s;") + "@signal v;");
        Desk.fault(3, full.replace("signal u;", "signal @s;"));
    }

    /** How many tokens a text has whose names and numbers are parted by signs or single blanks. */
    private static int count(String text) {
        int n = 0;
        java.util.regex.Matcher token = java.util.regex.Pattern.compile("[a-z0-9]+|->|\\.\\.|[^ ]").matcher(text);
        while (token.find()) {
            n++;
        }
        return n;
    }

    private static String nested(String open, int n, String inner, String close) {
        return Desk.repeat(open, n) + inner + Desk.repeat(close, n);
    }

    private static void brackets() {
        Desk.good(HEAD + "x := " + nested("(", 12, "1", ")") + ";" + TAIL);
        Desk.fault(2, HEAD + "x := " + nested("(", 12, "@(1)", ")") + ";" + TAIL);
        Desk.good(HEAD + "x := " + nested("(", 12, "1", ")") + " + " + nested("(", 12, "1", ")") + ";" + TAIL);
        Desk.good(HEAD + "output i(" + nested("(", 11, "1", ")") + ");" + TAIL);
        Desk.fault(2, HEAD + "output i(" + nested("(", 11, "@(1)", ")") + ");" + TAIL);
        Desk.good(HEAD + "output m(" + nested("(", 11, "1", ")") + ", " + nested("(", 11, "1", ")") + ", 1);" + TAIL);
        String maker = "process p 1..1 (k: int); start; create p(";
        Desk.good(maker + nested("(", 11, "1", ")") + ");" + TAIL);
        Desk.fault(2, maker + nested("(", 11, "@(1)", ")") + ");" + TAIL);
        Desk.good(HEAD + "set t " + nested("(", 12, "1", ")") + ";" + TAIL);
        Desk.fault(2, HEAD + "set t " + nested("(", 12, "@(1)", ")") + ";" + TAIL);
        Desk.good(HEAD + "output s to " + nested("(", 12, "self", ")") + ";" + TAIL);
        Desk.fault(2, HEAD + "output s to " + nested("(", 12, "@(self)", ")") + ";" + TAIL);
    }

    private static void indexes() {
        Desk.good(HEAD + "x := " + nested("a[", 12, "0", "]") + ";" + TAIL);
        Desk.fault(2, HEAD + "x := " + nested("a[", 12, "a@[0]", "]") + ";" + TAIL);
        Desk.good(HEAD + nested("a[", 12, "0", "]") + " := 1;" + TAIL);
        Desk.fault(2, HEAD + nested("a[", 12, "a@[0]", "]") + " := 1;" + TAIL);
        Desk.good(HEAD + "a[0] := " + nested("a[", 12, "0", "]") + ";" + TAIL);
        Desk.fault(2, HEAD + "a[0] := " + nested("a[", 12, "a@[0]", "]") + ";" + TAIL);
    }

    private static void minusAndNot() {
        Desk.good(HEAD + "x := " + nested("- ", 12, "1", "") + ";" + TAIL);
        Desk.fault(2, HEAD + "x := " + nested("- ", 12, "@- 1", "") + ";" + TAIL);
        Desk.good(HEAD + "y := " + nested("not ", 12, "y", "") + ";" + TAIL);
        Desk.fault(2, HEAD + "y := " + nested("not ", 12, "@not y", "") + ";" + TAIL);
        // Up to the end of what they stand ahead of.
        Desk.good(HEAD + "x := " + nested("- ", 12, "1", "") + " - " + nested("- ", 12, "1", "") + " * " + nested("- ", 12, "1", "") + ";" + TAIL);
        Desk.good(HEAD + "y := " + nested("not ", 12, "y", "") + " and " + nested("not ", 12, "y", "") + " = " + nested("not ", 12, "y", "") + ";" + TAIL);
        Desk.fault(2, HEAD + "x := " + nested("- ", 12, "1", "") + " - " + nested("- ", 12, "@- 1", "") + ";" + TAIL);
        Desk.good(HEAD + "x := - " + nested("(", 11, "1", ")") + " - (1);" + TAIL);
        Desk.fault(2, HEAD + "x := - " + nested("(", 11, "@(1)", ")") + ";" + TAIL);
        Desk.good(HEAD + "x := - " + nested("a[", 11, "0", "]") + " + a[0];" + TAIL);
        Desk.fault(2, HEAD + "x := - " + nested("a[", 11, "a@[0]", "]") + ";" + TAIL);
        Desk.good(HEAD + "x := " + nested("- (", 6, "1", ")") + ";" + TAIL);
        Desk.fault(2, HEAD + "x := " + nested("- (", 6, "@- 1", ")") + ";" + TAIL);
    }

    private static void decides() {
        Desk.good(HEAD + nested("decide x; 1: ", 12, "x := 1; ", "end; ") + TAIL);
        Desk.fault(2, HEAD + nested("decide x; 1: ", 12, "@decide x; 1: end; ", "end; ") + TAIL);
        Desk.good(HEAD + nested("decide x; 1: ", 11, "decide x; 1: end; decide x; 1: end; ", "end; ") + TAIL);
        Desk.good(HEAD + nested("decide x; 1: else: ", 12, "x := 1; ", "end; ") + TAIL);
        Desk.fault(2, HEAD + nested("decide x; 1: else: ", 12, "@decide x; 1: end; ", "end; ") + TAIL);
        Desk.fault(2, HEAD + nested("decide x; 1: ", 12, "x := @(1); ", "end; ") + TAIL);
        Desk.fault(2, HEAD + nested("decide x; 1: ", 12, "x := @- 1; ", "end; ") + TAIL);
        Desk.fault(2, HEAD + nested("decide x; 1: ", 12, "y := @not y; ", "end; ") + TAIL);
        Desk.fault(2, HEAD + nested("decide x; 1: ", 12, "x := a@[1]; ", "end; ") + TAIL);
        Desk.fault(2, HEAD + nested("decide x; 1: ", 12, "a@[1] := x; ", "end; ") + TAIL);
        Desk.fault(2, HEAD + nested("decide x; 1: ", 12, "output i@(1); ", "end; ") + TAIL);
        Desk.fault(2, HEAD + nested("decide x; 1: ", 12, "create p@(1); ", "end; ") + TAIL);
        Desk.fault(2, HEAD + nested("decide x; 1: ", 12, "set t @(1); ", "end; ") + TAIL);
        Desk.fault(2, HEAD + nested("decide x; 1: ", 12, "output s to @(self); ", "end; ") + TAIL);
        // What is decided stands within the decide.
        Desk.good(HEAD + nested("decide x; 1: ", 10, "decide (x); 1: end; ", "end; ") + TAIL);
        Desk.good(HEAD + nested("decide x; 1: ", 10, "decide - x; 1: end; ", "end; ") + TAIL);
        Desk.fault(2, HEAD + nested("decide x; 1: ", 11, "decide @(x); 1: end; ", "end; ") + TAIL);
        Desk.fault(2, HEAD + nested("decide x; 1: ", 11, "decide @- x; 1: end; ", "end; ") + TAIL);
        Desk.good(HEAD + nested("decide x; 1: ", 12, "", "end; ") + "x := " + nested("(", 12, "1", ")") + ";" + TAIL);
    }

    private static void mixed() {
        String three = "decide x; 1: decide x; 1: decide x; 1: ";
        String ends = "end; end; end; ";
        Desk.good(HEAD + three + "x := a[a[a[(((- - - 1)))]]]; " + ends + TAIL);
        Desk.fault(2, HEAD + three + "x := a[a[a[(((- - - @- 1)))]]]; " + ends + TAIL);
        Desk.fault(2, HEAD + three + "x := a[a[a[(((- - - @(1))))]]]; " + ends + TAIL);
        Desk.fault(2, HEAD + three + "x := a[a[a[(((- - - a@[1])))]]]; " + ends + TAIL);
        Desk.good(HEAD + three + "x := a[a[a[(((- - - 1)))]]] - (- - - - - - - - 1); " + ends + TAIL);
        Desk.fault(2, HEAD + three + "x := a[a[a[(((- - - 1)))]]] - (- - - - - - - - @- 1); " + ends + TAIL);
    }

    private static void conditions() {
        String state = HEAD + "next z; state z; ";
        Desk.good(state + "input s if " + nested("(", 12, "y", ")") + ";" + TAIL);
        Desk.fault(2, state + "input s if " + nested("(", 12, "@(y)", ")") + ";" + TAIL);
        Desk.good(state + "when " + nested("not ", 12, "y", "") + ";" + TAIL);
        Desk.fault(2, state + "when " + nested("not ", 12, "@not y", "") + ";" + TAIL);
        Desk.good(state + "input i(x) if " + nested("(", 12, "y", ")") + "; stop; when " + nested("(", 12, "y", ")") + ";" + TAIL);
    }

    /** A - between two, of a range, behind next, and ( [ that are closed. */
    private static void whatIsNotOpen() {
        Desk.good(HEAD + "x := " + nested("(", 12, "1 - 1 - 1", ")") + ";" + TAIL);
        Desk.good(HEAD + nested("decide x; -1: ", 12, "x := 1 - 1; ", "-3 .. -2: end; ") + TAIL);
        Desk.good(HEAD + "next z; state z; none; " + nested("decide x; 1: ", 12, "next -; ", "end; ") + TAIL);
        Desk.good(HEAD + Desk.repeat("decide (x); 1: a[a[0]] := - - x; end; ", 15) + TAIL);
        Desk.good("signal s(int), u(int); process p 1..1 (k: int); var a: int[3]; var c: int[2]; start; x: c[0] := " + nested("(", 12, "1", ")") + ";" + TAIL);
        Desk.good(HEAD + "next z; state z; input i(x); x := " + nested("(", 12, "1", ")") + ";" + TAIL);
    }

    private static void tables() {
        Desk.good("signal " + Desk.repeat("s%, ", 10) + "a; signal " + Desk.repeat("t%, ", 8) + "b;");
        Desk.fault(2, "signal " + Desk.repeat("s%, ", 10) + "a; signal " + Desk.repeat("t%, ", 8) + "b; signal @c;");
        Desk.fault(2, "signal " + Desk.repeat("s%(int), ", 20) + "@c(int);");
        Desk.good("signal s; " + Desk.repeat("route r% env -> env with s; ", 10));
        Desk.fault(2, "signal s; " + Desk.repeat("route r% env -> env with s; ", 10) + "route @r env -> env with s;");
        Desk.good(Desk.repeat("process p% 1..1; " + SHORT, 6));
        Desk.fault(2, Desk.repeat("process p% 1..1; " + SHORT, 6) + "process @p 1..1; " + SHORT);
        Desk.good(P + "start; stop; " + Desk.repeat("state z%; ", 12) + "state z0, z11; end;");
        Desk.fault(2, P + "start; stop; " + Desk.repeat("state z%; ", 12) + "state z0, z11, @z12; end;");
        Desk.good(P + "start; stop; " + Desk.repeat("state z%; ", 12) + "state *; end;");
        Desk.good("process p 1..1 (a: int, b: int, c: int); " + Desk.repeat("var v%: int; ", 5) + SHORT);
        Desk.fault(2, "process p 1..1 (a: int, b: int, c: int); " + Desk.repeat("var v%: int; ", 5) + "var @w: int; " + SHORT);
        Desk.fault(2, P + Desk.repeat("var v%: int[2]; ", 8) + "var @w: int; " + SHORT);
        Desk.good(P + Desk.repeat("timer t%; var v%: int; ", 3) + SHORT);
        Desk.fault(2, P + Desk.repeat("timer t%; var v%: int; ", 3) + "timer @t; " + SHORT);
        Desk.good(P + "start; " + Desk.repeat("l%: ", 5) + "stop; state z; none; " + Desk.repeat("k%: ", 5) + "stop; end;");
        Desk.fault(2, P + "start; " + Desk.repeat("l%: ", 5) + "stop; state z; none; " + Desk.repeat("k%: ", 5) + "stop; none; @l: stop; end;");
    }

    private static void eachTypeItsOwn() {
        String full = " 1..1 (a: int, b: int, c: int); " + Desk.repeat("var v%: int; ", 4) + "var w: int[8]; " + Desk.repeat("timer t%; ", 3)
            + "start; " + Desk.repeat("l%: ", 10) + "stop; " + Desk.repeat("state z%; ", 12) + "end; ";
        Desk.good(Desk.repeat("process p%" + full, 6));
        Desk.fault(2, Desk.repeat("process p%" + full, 5) + ("process q" + full).replace("timer t2;", "timer t2; timer @u;"));
        Desk.fault(2, Desk.repeat("process p%" + full, 5) + ("process q" + full).replace("var v3: int;", "var v3: int; var v4: int;").replace("var w", "var @w"));
        Desk.fault(2, Desk.repeat("process p%" + full, 5) + ("process q" + full).replace("l9:", "l9: @l:"));
        Desk.fault(2, Desk.repeat("process p%" + full, 5) + ("process q" + full).replace("state z11;", "state z11; state @z12;"));
    }

    private static void lists() {
        Desk.good("signal s(int, bool, pid), u(pid, pid, pid);");
        Desk.fault(2, "signal s(int, bool, pid, @pid);");
        Desk.fault(2, "signal s(int, bool, pid), u(pid, pid, pid, @int, int);");
        Desk.good("process p 1..1 (a: int, b: bool, c: pid); " + SHORT);
        Desk.fault(2, "process p 1..1 (a: int, b: bool, c: pid, @d: pid); " + SHORT);
        Desk.good(HEAD + "output m(1, 2, 3); output m(4, 5, 6);" + TAIL);
        Desk.fault(2, HEAD + "output m(1, 2, 3, @4);" + TAIL);
        Desk.fault(2, HEAD + "output m(1, 2, 3); output m(1, 2, 3, @a[0]);" + TAIL);
        Desk.good("process p 1..1 (a: int, b: bool, c: pid); start; create p(1, true, null);" + TAIL);
        Desk.fault(2, "process p 1..1 (a: int, b: bool, c: pid); start; create p(1, true, null, @self);" + TAIL);
        String state = "signal m(int, int, int); " + P + "var x: int; var y: int; var z: int; start; next q; state q; ";
        Desk.good(state + "input m(x, y, z);" + TAIL);
        Desk.fault(2, state + "input m(x, y, z, @x);" + TAIL);
        // A name may be wrong in many ways: that there is no room for it is told.
        Desk.fault(2, state + "input w(x, x, y, @v);" + TAIL);
    }

    private static void ranges() {
        Desk.good(HEAD + "decide x; 1: 2: 3: 4: 5: 6: 7: 8: else: end;" + TAIL);
        Desk.fault(2, HEAD + "decide x; 1: 2: 3: 4: 5: 6: 7: 8: @9: else: end;" + TAIL);
        Desk.fault(2, HEAD + "decide x; 1, 2, 3, 4, 5, 6, 7, 8, @9 .. 10: else: end;" + TAIL);
        Desk.fault(2, HEAD + "decide x; 1 .. 2, 3 .. 4: 5, 6, 7: 8: 9, 10, @-11: end;" + TAIL);
        Desk.good(HEAD + "decide y; true, false, true, false: true: false: true: false: end;" + TAIL);
        Desk.fault(2, HEAD + "decide y; true, false, true, false: true: false: true: false: @true: end;" + TAIL);
        // Each decide has its own.
        String eight = "1, 2, 3, 4, 5, 6, 7, ";
        Desk.good(HEAD + "decide x; " + eight + "8: end; decide x; " + eight + "8: end;" + TAIL);
        Desk.good(HEAD + "decide x; 1: decide x; " + eight + "8: end; 2, 3, 4, 5, 6, 7, 8: decide x; " + eight + "8: end; else: decide x; " + eight + "8: end; end;" + TAIL);
        Desk.fault(2, HEAD + "decide x; 1: decide x; " + eight + "8: end; 2, 3, 4, 5, 6, 7, 8: decide x; 1: end; @9: end;" + TAIL);
        Desk.fault(2, HEAD + "decide x; 1, 2: decide x; " + eight + "8, @9: end; end;" + TAIL);
    }

    private static void numbers() {
        for (int n : new int[] {0, 1, 8, 9, 10, 999999999}) {
            String text = P + "var a: int[@" + n + "]; " + SHORT;
            number(text, n >= 1 && n <= 8);
        }
        for (int n : new int[] {0, 1, 199, 200, 201, 300, 999999999}) {
            number("process p 0..@" + n + "; " + SHORT, n <= 200);
            number("process p @" + n + "..200; " + SHORT, n <= 200);
            number("signal s; route r env -> env delay @" + n + " with s;", n <= 200);
            number("signal s; route r env -> env delay 0 .. @" + n + " with s;", n <= 200);
            number("signal s; route r env -> env delay @" + n + " .. 200 with s;", n <= 200);
        }
        for (int n : new int[] {0, 1, 8, 9, 10, 11, 200}) {
            number(P + "start; stop; state z; when true prio @" + n + "; stop; end;", n <= 9);
        }
        number(P + "var a: bool[@000000008]; " + SHORT, true);
        number("process p 0..@000000200; " + SHORT, true);
    }

    private static void number(String marked, boolean good) {
        if (good) {
            Desk.good(marked.replace("@", ""));
        } else {
            Desk.fault(2, marked);
        }
    }

    private static void cells() {
        Desk.good(P + "var a: int[8]; var b: bool[8]; " + SHORT);
        Desk.fault(2, P + "var a: int[8]; var b: bool[8]; var c: @pid; " + SHORT);
        Desk.fault(2, P + "var a: int[8]; var b: bool[8]; var c: pid[1@]; " + SHORT);
        Desk.good(P + "var a: int[8]; var b: bool[7]; var c: pid; " + SHORT);
        Desk.good(P + "var a: int[8]; var b: bool[7]; var c: pid[1]; " + SHORT);
        Desk.fault(2, P + "var a: int[8]; var b: bool[7]; var c: pid[2@]; " + SHORT);
        Desk.good("process p 1..1 (i: int, j: int, k: int); var a: int[8]; var b: bool[5]; " + SHORT);
        Desk.fault(2, "process p 1..1 (i: int, j: int, k: int); var a: int[8]; var b: bool[6@]; " + SHORT);
        Desk.fault(2, "process p 1..1 (i: int, j: int, k: int); var a: int[8]; var b: bool[5]; var c: @bool; " + SHORT);
        Desk.fault(2, P + "var a: int[8]; var b: bool[8]; var c: pid[@9]; " + SHORT);
        Desk.fault(2, P + "var a: int[8]; var b: bool[8]; var c: pid[@0]; " + SHORT);
        // The sort is ahead of what breaks the text, the ] is not.
        Desk.fault(2, P + "var a: int[8]; var b: bool[8]; var c: @pid, d; " + SHORT);
        Desk.fault(1, P + "var a: int[8]; var b: bool[8]; var c: pid[1@; " + SHORT);
    }

    /** Of SYNTAX and ROOM the first one from the left. */
    private static void leftmost() {
        Desk.fault(1, "signal s @u; process p 1..201; " + SHORT);
        Desk.fault(2, "process p 1..@201; " + SHORT + "signal s u;");
        Desk.fault(2, "process p 1..@201 ? " + SHORT);
        Desk.fault(1, "process p 1 @201; " + SHORT);
        Desk.fault(2, "process p @201? " + SHORT);
        Desk.fault(2, "process p @201");
        Desk.fault(2, "signal s(int, int, int, @int");
        Desk.fault(1, "signal s(int, int, int@");
        // Neither leaves anything of the others to be asked.
        Desk.fault(2, "signal s, s; route r q -> q with t; process p 2..1 (a: int, a: int); var b: int[@0]; start; end;");
        Desk.fault(1, "signal s, s; route r q -> q with t; process p 2..1 (a: int, a: int); start; end@");
    }
}
