/** Promises 3 and 4, and what the terms say of tokens, the grammar and the faults. */
public final class FaultTest {
    private static final String P = "process p 1..1; ";
    private static final String S = "signal s, i(int), b(bool), q(pid), m(int, bool, pid); ";
    /** A type with variables of all sorts, up to its start's trans. */
    private static final String V = S + P + "var x: int; var y: bool; var z: pid; var a: int[3]; var c: bool[2]; timer t; start; ";
    private static final String STOP = "stop; end;";

    public static void main(String[] args) {
        tokens();
        syntaxOfItems();
        syntaxOfParts();
        syntaxOfExpressions();
        roomOfLists();
        roomOfNumbers();
        roomOfDepth();
        roomOfTokens();
        twice();
        unknownNames();
        sortsOfNames();
        sortsOfExpressions();
        form();
        endings();
        order();
        Desk.close("FaultTest");
    }

    private static void tokens() {
        Desk.good("signal a123456789;");
        Desk.fault(1, "signal @a1234567890;");
        Desk.fault(1, "signal @Big;");
        Desk.fault(1, "signal a@B;");
        Desk.fault(1, "signal @_a;");
        Desk.fault(1, "signal @route;");
        Desk.fault(1, "signal @opt;");
        Desk.fault(1, "signal a@.;");
        Desk.fault(1, "signal a;@. signal b;");
        Desk.fault(1, "signal a@\0;");
        Desk.fault(1, "signal a@\u00e9;");
        Desk.good("#note\nsignal#\u00ff\0 signal ;\n\ta\r;#the end");
        Desk.fault(1, "signal a #;@");
        Desk.good("process p 1..1;start;stop;end;");
        Desk.good("process p 1 .. 1 ; start ; stop ; end ;");
        Desk.good("process p 000000001..1; start; stop; end;");
        Desk.fault(1, "process p @0000000001..1; start; stop; end;");
        Desk.fault(1, "process p @1x..1; start; stop; end;");
        Desk.fault(1, "process p @1_..1; start; stop; end;");
        Desk.fault(2, V + "decide x; 1: stop; 2: stop; 3..4, 5, 6, 7, 8, 9: @10: stop; end; " + STOP);
        Desk.good(V + "x:=x-1; y:=x<-1; y:=x<=-1; y:=x/=-1; " + STOP);
        Desk.fault(1, V + "y := x = @= 1; " + STOP);
    }

    private static void syntaxOfItems() {
        Desk.fault(1, "@");
        Desk.fault(1, "  @");
        Desk.fault(1, "@a;");
        Desk.fault(1, "signal@");
        Desk.fault(1, "signal a@");
        Desk.fault(1, "signal a @b;");
        Desk.fault(1, "signal a, @;");
        Desk.fault(1, "signal a(@);");
        Desk.fault(1, "signal a(@x);");
        Desk.fault(1, "signal a(int @bool);");
        Desk.good("signal a; route r env -> env with a;");
        Desk.fault(1, "signal a; route r env @- > env with a;");
        Desk.fault(1, "signal a; route @env env -> env with a;");
        Desk.fault(1, "signal a; route r env -> env delay @with a;");
        Desk.fault(1, "signal a; route r env -> env delay 1 .. @with a;");
        Desk.fault(1, "signal a; route r env -> env delay 1 .. 2 @.. 3 with a;");
        Desk.fault(1, "signal a; route r env -> env @;");
        Desk.fault(1, "signal a; route r env -> env with a,@;");
        Desk.fault(1, "process p @; start; stop; end;");
        Desk.fault(1, "process p 1@; start; stop; end;");
        Desk.fault(1, "process p 1..1 (@); start; stop; end;");
        Desk.fault(1, "process p 1..1 (x@); start; stop; end;");
        Desk.fault(1, P + "@stop; end;");
        Desk.fault(1, P + "var x: int[@]; start; stop; end;");
        Desk.fault(1, P + "var x @int; start; stop; end;");
        Desk.fault(1, P + "timer t@, u; start; stop; end;");
        Desk.fault(1, P + "start; stop; end@");
        Desk.fault(1, P + "start; stop; @");
        Desk.fault(1, P + "start; stop; end; @end;");
        Desk.fault(1, P + "start; stop; @var x: int; end;");
        Desk.fault(1, P + "start; stop; @input s; stop; end;");
    }

    private static void syntaxOfParts() {
        Desk.fault(1, P + "start; stop; state @; end;");
        Desk.fault(1, P + "start; stop; state *@, a; end;");
        Desk.fault(1, P + "start; stop; state a, @*; end;");
        Desk.good(P + "start; stop; state a, a; state *; end;");
        Desk.fault(1, S + P + "start; stop; state a; input s @stop; end;");
        Desk.fault(1, S + P + "start; stop; state a; input @; stop; end;");
        Desk.fault(1, S + P + "start; stop; state a; input s(@); stop; end;");
        Desk.fault(1, S + P + "start; stop; state a; input *@(x); stop; end;");
        Desk.fault(1, S + P + "start; stop; state a; save s, @*; end;");
        Desk.fault(1, S + P + "start; stop; state a; save *@, s; end;");
        Desk.fault(1, S + P + "start; stop; state a; save s @if true; end;");
        Desk.fault(1, P + "start; stop; state a; when @; stop; end;");
        Desk.fault(1, P + "start; stop; state a; when true prio @x; stop; end;");
        Desk.fault(1, P + "start; stop; state a; none @stop; end;");
        Desk.fault(1, P + "start; stop; @stop; end;");
        Desk.fault(1, P + "start; stop; @l: stop; end;");
        Desk.fault(1, P + "start; l: @end;");
        Desk.fault(1, P + "start; l: l: @state a; end;");
        Desk.good(P + "start; l: k : join l; end;");
        Desk.fault(1, V + "x @1; " + STOP);
        Desk.fault(1, V + "x@; " + STOP);
        Desk.fault(1, V + "a[1 @:= 2; " + STOP);
        Desk.fault(1, V + "output s to z @via r; " + STOP);
        Desk.fault(1, V + "output s(@); " + STOP);
        Desk.fault(1, V + "output i(1 @2); " + STOP);
        Desk.fault(1, V + "set t @; " + STOP);
        Desk.fault(1, V + "reset t @1; " + STOP);
        Desk.fault(1, V + "create p @to z; " + STOP);
        Desk.fault(1, V + "decide x; @end; " + STOP);
        Desk.fault(1, V + "decide x; @else: end; " + STOP);
        Desk.fault(1, V + "decide x; 1: else: @2: end; " + STOP);
        Desk.fault(1, V + "decide x; 1: else: @else: end; " + STOP);
        Desk.fault(1, V + "decide x; - @x: end; " + STOP);
        Desk.fault(1, V + "decide y; true @.. false: end; " + STOP);
        Desk.fault(1, V + "decide x; 1,@: end; " + STOP);
        Desk.fault(1, V + "next @; end;");
        Desk.fault(1, V + "join @-; end;");
        Desk.fault(1, V + "stop @l; end;");
    }

    private static void syntaxOfExpressions() {
        Desk.good(V + "x := - - x * (1 + a[a[0]]) / 2 % 3; y := not y and x < 1 or true /= false; " + STOP);
        Desk.fault(1, V + "x := @; " + STOP);
        Desk.fault(1, V + "x := 1 + @; " + STOP);
        Desk.fault(1, V + "x := 1 @1; " + STOP);
        Desk.fault(1, V + "x := (1@; " + STOP);
        Desk.fault(1, V + "x := a[1@; " + STOP);
        Desk.fault(1, V + "y := x < 1 @< 2; " + STOP);
        Desk.fault(1, V + "y := x = 1 @/= 2; " + STOP);
        Desk.fault(1, V + "y := active @1; " + STOP);
        Desk.fault(1, V + "x := @* 2; " + STOP);
        Desk.fault(1, V + "x := @env; " + STOP);
        Desk.fault(1, V + "x := now @(1); " + STOP);
    }

    /** A list of n names with a prefix, parted by commas. */
    private static String list(String prefix, int n) {
        StringBuilder text = new StringBuilder();
        for (int i = 0; i < n; i++) {
            text.append(i == 0 ? "" : ", ").append(prefix).append(i);
        }
        return text.toString();
    }

    private static String repeat(String part, int n) {
        StringBuilder text = new StringBuilder();
        for (int i = 0; i < n; i++) {
            text.append(part.replace("%", Integer.toString(i)));
        }
        return text.toString();
    }

    private static void roomOfLists() {
        Desk.good("signal " + list("s", 20) + ";");
        Desk.fault(2, "signal " + list("s", 20) + ", @t;");
        Desk.fault(2, "signal " + list("s", 20) + "; signal @s0;");
        String routes = repeat("route r% env -> env with s; ", 10);
        Desk.good("signal s; " + routes);
        Desk.fault(2, "signal s; " + routes + "route @x env -> env with s;");
        String types = repeat("process p% 1..1; start; stop; end; ", 6);
        Desk.good(types);
        Desk.fault(2, types + "process @x 1..1; start; stop; end;");
        Desk.good(P + "start; stop; state " + list("z", 12) + "; state z3, z4; end;");
        Desk.fault(2, P + "start; stop; state " + list("z", 12) + "; state z3, @x; end;");
        Desk.good(P + repeat("var v%: int; ", 8) + "start; stop; end;");
        Desk.fault(2, P + repeat("var v%: int; ", 8) + "var @w: int; start; stop; end;");
        Desk.fault(2, "process p 1..1 (a: int, b: int, c: int); " + repeat("var v%: int; ", 5) + "var @w: int; start; stop; end;");
        Desk.good(P + repeat("timer t%; ", 3) + "start; stop; end;");
        Desk.fault(2, P + repeat("timer t%; ", 3) + "timer @u; start; stop; end;");
        Desk.good(P + "start; " + repeat("l%: ", 10) + "stop; end;");
        Desk.fault(2, P + "start; " + repeat("l%: ", 10) + "@m: stop; end;");
        Desk.fault(2, "signal s(int, int, int, @int);");
        Desk.fault(1, "signal s(int, int, int, @);");
        Desk.fault(2, "process p 1..1 (a: int, b: int, c: int, @d: int); start; stop; end;");
        Desk.fault(2, V + "output m(1, true, null, @(1)); " + STOP);
        Desk.fault(2, V + "output m(1, true, null, @x); " + STOP);
        Desk.fault(2, V + "output m(1, true, null, @- 1); " + STOP);
        Desk.fault(1, V + "output m(1, true, null, @); " + STOP);
        Desk.fault(2, V + "create p(1, true, null, @not true); " + STOP);
        Desk.fault(2, S + P + "start; stop; state z; input m(a, b, c, @d); stop; end;");
        Desk.fault(2, V + "decide x; 1, 2, 3: 4, 5, 6: 7: 8: @-9: else: end; " + STOP);
        Desk.fault(1, V + "decide x; 1, 2, 3, 4, 5, 6, 7, 8, @: else: end; " + STOP);
        Desk.good(V + "decide x; 1, 2, 3, 4, 5, 6, 7, 8: decide x; 1, 2, 3, 4, 5, 6, 7, 8: end; else: end; " + STOP);
    }

    private static void roomOfNumbers() {
        Desk.good(P + "var a: int[8]; start; stop; end;");
        Desk.fault(2, P + "var a: int[@9]; start; stop; end;");
        Desk.fault(2, P + "var a: int[@0]; start; stop; end;");
        Desk.good("process p 200..200; start; stop; end;");
        Desk.fault(2, "process p @201..1; start; stop; end;");
        Desk.fault(2, "process p 1..@201; start; stop; end;");
        Desk.good("signal s; route r env -> env delay 200 .. 200 with s;");
        Desk.fault(2, "signal s; route r env -> env delay @201 with s;");
        Desk.fault(2, "signal s; route r env -> env delay 1 .. @201 with s;");
        Desk.good(P + "start; stop; state a; when true prio 9; stop; end;");
        Desk.fault(2, P + "start; stop; state a; when true prio @10; stop; end;");
        Desk.good(P + "var a: int[8]; var b: int[7]; var c: bool; start; stop; end;");
        Desk.fault(2, P + "var a: int[8]; var b: int[8]; var c: @bool; start; stop; end;");
        Desk.fault(2, P + "var a: int[8]; var b: int[8]; var c: @bool stop; end;");
        Desk.fault(2, P + "var a: int[8]; var b: int[8]; var c: bool[1@]; start; stop; end;");
        Desk.fault(2, "process p 1..1 (q: int); var a: int[8]; var b: int[8@]; start; stop; end;");
    }

    private static void roomOfDepth() {
        String eleven = "(((((((((((";
        Desk.good(V + "x := " + eleven + "(1)" + ")))))))))))" + "; " + STOP);
        Desk.fault(2, V + "x := " + eleven + "(@(1)))))))))))));" + STOP);
        Desk.fault(2, V + "x := " + repeat("- ", 12) + "@- 1;" + STOP);
        Desk.fault(2, V + "x := " + repeat("- ", 12) + "@(1);" + STOP);
        Desk.good(V + "x := " + repeat("- ", 12) + "1 - - 1;" + STOP);
        Desk.good(V + "x := " + repeat("- ", 12) + "x - 1;" + STOP);
        Desk.fault(2, V + "y := " + repeat("not ", 12) + "@not y;" + STOP);
        Desk.fault(2, V + "x := " + repeat("- ", 12) + "a@[1];" + STOP);
        Desk.fault(2, V + "a[" + eleven + "@(1)" + ")))))))))))] := 1;" + STOP);
        Desk.good(V + repeat("decide x; 1: ", 12) + repeat("end; ", 12) + STOP);
        Desk.fault(2, V + repeat("decide x; 1: ", 12) + "@decide x; 1: " + repeat("end; ", 13) + STOP);
        Desk.fault(2, V + repeat("decide x; 1: ", 12) + "output i@(1); " + repeat("end; ", 12) + STOP);
        Desk.good(V + repeat("decide x; 1: ", 11) + "output i(1); decide x; 1: x := 1; end; "
            + repeat("end; ", 11) + STOP);
        Desk.good(V + repeat("decide x; 1: end; ", 20) + repeat("x := (x) + (x); ", 20) + STOP);
    }

    /** A text whose tokens behind the tenth are none ; up to the n-th. */
    private static String nones(int n) {
        StringBuilder text = new StringBuilder("process p 1..1;start;stop;state z;");
        for (int tokens = 13; tokens < n; tokens++) {
            text.append(tokens % 2 == 1 ? "none" : ";");
        }
        return text.toString();
    }

    private static void roomOfTokens() {
        Desk.fault(1, nones(1200) + "@");
        Desk.fault(2, nones(1200) + "@;");
        Desk.fault(2, nones(1200) + "@;none;none");
        Desk.fault(1, nones(1200) + "@?");
        Desk.fault(1, nones(1199) + "@?;;;;");
        // 6 tokens, nine routes of 118, one of 116, and 16 more make 1200.
        StringBuilder full = new StringBuilder("signal s(int);");
        for (int i = 0; i < 10; i++) {
            full.append("route r").append(i).append(" env -> env with s").append(repeat(",s", i == 9 ? 54 : 55));
            full.append(i == 9 ? "" : ";");
        }
        full.append(repeat(",s", 8));
        Desk.good(full + "; # a note is no token");
        Desk.fault(2, full + ",@s;");
        Desk.fault(2, full + ";@signal t;");
    }

    private static void twice() {
        Desk.fault(3, "signal a, @a;");
        Desk.fault(3, "signal a; route @a env -> env with a;");
        Desk.fault(3, "signal a; process @a 1..1; start; stop; end;");
        Desk.fault(3, "process a 1..1; start; stop; end; signal @a;");
        Desk.fault(3, P + "var x: int; var @x: bool; start; stop; end;");
        Desk.fault(3, P + "timer x; var @x: bool; start; stop; end;");
        Desk.fault(3, P + "var x: bool; timer @x; start; stop; end;");
        Desk.fault(3, "process p 1..1 (x: int); var @x: bool; start; stop; end;");
        Desk.fault(3, "process p 1..1 (x: int, @x: int); start; stop; end;");
        Desk.fault(3, P + "start; l: @l: join l; end;");
        Desk.fault(3, P + "start; l: join l; state z; none; @l: stop; end;");
        Desk.good(P + "start; l: stop; end; process q 1..1; start; l: stop; end;");
        Desk.good(P + "var p: int; var l: int; timer t; start; l: l := p; stop; state l, p, t; end;");
        Desk.fault(3, "signal t; " + P + "timer @t; start; stop; end;");
        Desk.fault(3, P + "timer @t; start; stop; end; signal t;");
        Desk.good("signal v; " + P + "var v: int; start; stop; end;");
        Desk.fault(3, S + P + "var x: int; var y: bool; start; stop; state z; input m(x, y, @x); stop; end;");
        Desk.good(S + P + "var x: int; start; stop; state z; input i(x), s; stop; end;");
    }

    private static void unknownNames() {
        Desk.fault(4, "signal s; route r @p -> env with s;");
        Desk.fault(4, "signal s; route r env -> @s with s;");
        Desk.fault(4, "signal s; route r env -> env with s, @p; " + P + "start; stop; end;");
        Desk.fault(4, P + "start; output @s; stop; end;");
        Desk.fault(4, P + "timer t; start; output @t; stop; end;");
        Desk.fault(4, P + "timer t; start; stop; state z; save t, @s; end;");
        Desk.fault(4, P + "timer t; start; stop; state z; input t, @s; stop; end;");
        Desk.fault(4, P + "timer t; start; stop; end; process q 1..1; start; stop; state z; save @t; end;");
        Desk.fault(4, V + "stop; state e; input i(@w); stop; end;");
        Desk.fault(4, V + "set @x 1; " + STOP);
        Desk.fault(4, V + "reset @s; " + STOP);
        Desk.fault(4, V + "y := active @y; " + STOP);
        Desk.fault(4, V + "create @s; " + STOP);
        Desk.fault(4, V + "output s via @p; " + STOP);
        Desk.fault(4, P + "start; next @a; end;");
        Desk.fault(4, P + "start; next @a; state b; end; process q 1..1; start; next a; state a; end;");
        Desk.fault(4, P + "start; join @a; end;");
        Desk.fault(4, P + "start; a: stop; end; process q 1..1; start; join @a; end;");
        Desk.fault(4, V + "@t := 1; " + STOP);
        Desk.fault(4, V + "@w[1] := 1; " + STOP);
        Desk.fault(4, V + "x := 1 + @s; " + STOP);
        Desk.fault(4, V + "x := @w[y]; " + STOP);
        Desk.good(P + "start; output s to self; create q; next z; state z; end; signal s; process q 0..1; start; stop; end;");
    }

    private static void sortsOfNames() {
        Desk.fault(5, V + "@a := 1; " + STOP);
        Desk.fault(5, V + "@x[1] := 1; " + STOP);
        Desk.fault(5, V + "x := @a; " + STOP);
        Desk.fault(5, V + "x := 1 + @x[1]; " + STOP);
        Desk.fault(5, V + "output @s(1); " + STOP);
        Desk.fault(5, V + "output @i; " + STOP);
        Desk.fault(5, V + "output @m(1, true); " + STOP);
        Desk.fault(5, V + "create @p(1); " + STOP);
        Desk.fault(5, "process p 1..1 (k: int); start; create @p; stop; end;");
        Desk.good("process p 1..1 (k: int); start; create p(1); stop; end;");
        Desk.good(V + "stop; state e; input m, i(x), t; stop; end;");
        Desk.fault(5, V + "stop; state e; input @m(x); stop; end;");
        Desk.fault(5, V + "stop; state e; input @s(x); stop; end;");
        Desk.fault(5, V + "stop; state e; input @t(x); stop; end;");
        Desk.fault(5, V + "stop; state e; input i(@y); stop; end;");
        Desk.fault(5, V + "stop; state e; input i(@a); stop; end;");
        Desk.fault(5, V + "stop; state e; input m(x, @z, y); stop; end;");
        Desk.good(V + "stop; state e; input m(x, y, z); stop; end;");
    }

    private static void sortsOfExpressions() {
        Desk.fault(5, V + "a[@y] := 1; " + STOP);
        Desk.fault(5, V + "x := a[@null]; " + STOP);
        Desk.fault(5, V + "set t @true; " + STOP);
        Desk.fault(5, V + "x := @y + 1; " + STOP);
        Desk.fault(5, V + "x := 1 + (2 * @y); " + STOP);
        Desk.fault(5, V + "x := 1 + @(y); " + STOP);
        Desk.fault(5, V + "x := 1 - 2 * @not y; " + STOP);
        Desk.fault(5, V + "x := - @y; " + STOP);
        Desk.fault(5, V + "y := x < @y; " + STOP);
        Desk.fault(5, V + "y := @self >= x; " + STOP);
        Desk.fault(5, V + "y := not @x; " + STOP);
        Desk.fault(5, V + "y := y and @x; " + STOP);
        Desk.fault(5, V + "y := @- 1 or y; " + STOP);
        Desk.fault(5, V + "y := x = @y; " + STOP);
        Desk.fault(5, V + "y := z /= @0; " + STOP);
        Desk.fault(5, V + "y := (x = 1) = @x; " + STOP);
        Desk.good(V + "y := (x = 1) = y; y := null = self; y := c[0] /= active t; " + STOP);
        Desk.fault(5, V + "x := @x = 1; " + STOP);
        Desk.fault(5, V + "y := @- x; " + STOP);
        Desk.fault(5, V + "z := @now; " + STOP);
        Desk.fault(5, V + "c[0] := @a[0]; " + STOP);
        Desk.fault(5, V + "x := 1 + @true; y := 1; " + STOP);
        Desk.fault(5, V + "y := 1 + @true; " + STOP);
        Desk.fault(4, V + "x := y = @w; " + STOP);
        Desk.fault(5, V + "output i(@y); " + STOP);
        Desk.fault(5, V + "output m(1, @2, 3); " + STOP);
        Desk.fault(5, V + "output s to @x; " + STOP);
        Desk.fault(5, "process p 1..1 (k: int, y: bool); start; create p(1, @1); stop; end;");
        Desk.fault(5, "process p 1..1 (k: int, y: bool); start; create p(@true, true); stop; end;");
        Desk.fault(5, V + "stop; state e; input s if @x; stop; end;");
        Desk.fault(5, V + "stop; state e; when @(x); stop; end;");
        Desk.fault(5, V + "decide @self; 1: end; " + STOP);
        Desk.fault(5, V + "decide x; 1: @true: end; " + STOP);
        Desk.fault(5, V + "decide y; true: @- 1: end; " + STOP);
        Desk.fault(5, V + "decide y; true: decide x; 1: end; @1: end; " + STOP);
        Desk.fault(4, V + "decide x + @w; true: end; " + STOP);
    }

    private static void form() {
        Desk.fault(6, "process p 2..@1; start; stop; end;");
        Desk.good("process p 2..2; start; stop; end;");
        Desk.fault(6, "signal s; route r env -> env delay 2 .. @1 with s;");
        Desk.fault(6, V + "decide x; 2 .. @1: end; " + STOP);
        Desk.fault(6, V + "decide x; -2 .. @-3: end; " + STOP);
        Desk.good(V + "decide x; -3 .. -3: 5 .. 5: end; " + STOP);
        Desk.fault(6, V + "stop; state e; input s; stop; save @s; end;");
        Desk.fault(6, V + "stop; state e; save s, @s; end;");
        Desk.fault(6, V + "stop; state e; input s, @s; stop; end;");
        Desk.fault(6, V + "stop; state e; input t; stop; state f, e; save @t; end;");
        Desk.fault(6, V + "stop; state *; save t; state e; input @t; stop; end;");
        Desk.fault(6, V + "stop; state e; input t; stop; state *; save @t; end;");
        Desk.fault(6, V + "stop; state e; input *; stop; save @*; end;");
        Desk.fault(6, V + "stop; state e; save *; state *; input @*; stop; end;");
        Desk.good(V + "stop; state e; input s; stop; save *; state f; input s, *; stop; end;");
        Desk.good(V + "stop; state e, e; input s; stop; end;");
        Desk.good(V + "stop; state *; input s; stop; state *; input s; stop; end;");
        Desk.fault(6, V + "output s via @r; " + STOP + " route r env -> p with s;");
        Desk.fault(6, V + "output s via @r; " + STOP + " route r p -> env with i;");
        Desk.good(V + "output s via r; " + STOP + " route r p -> p with i, s;");
        Desk.fault(6, P + "start; next @-; end;");
        Desk.fault(6, V + "decide x; 1: next @-; end; " + STOP);
        Desk.good(P + "start; stop; state e; none; next -; end;");
    }

    private static void endings() {
        Desk.fault(6, P + "start; @end;");
        Desk.fault(6, P + "start; @state e; end;");
        Desk.fault(6, V + "x := 1; @end;");
        Desk.fault(6, V + "stop; state e; input s; @input i; stop; end;");
        Desk.fault(6, V + "stop; state e; when y; @save s; end;");
        Desk.fault(6, V + "stop; state e; none; @none; stop; end;");
        Desk.fault(6, V + "decide x; 1: stop; end; @end;");
        Desk.fault(6, V + "decide x; 1: stop; else: x := 1; end; @end;");
        Desk.fault(6, V + "decide x; 1: else: stop; end; @end;");
        Desk.good(V + "decide x; 1: stop; 2: decide y; true: stop; else: stop; end; else: l: join l; end; end;");
        Desk.fault(6, V + "decide x; 1: stop; else: stop; end; x := 1; @end;");
        Desk.good(V + "decide x; 1: stop; else: stop; end; x := 1; stop; end;");
    }

    private static void order() {
        Desk.fault(1, "signal a, a; @x");
        Desk.fault(2, "signal a, a; process p 1..@300; start; stop; end; x");
        Desk.fault(3, "signal a, @a; process p 2..1; start; stop; end;");
        Desk.fault(6, "process p 2..@1; start; stop; end; signal a, a;");
        Desk.fault(4, S + P + "var x: int; var y: bool; start; stop; state z; input m(@w, w, x); stop; end;");
        Desk.fault(4, P + "start; output @s(x) to y; stop; end;");
    }
}
