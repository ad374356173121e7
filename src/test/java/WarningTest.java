/** Promise 5, warnings, with count(3). */
public final class WarningTest {
    public static void main(String[] args) {
        none();
        states();
        joins();
        signals();
        types();
        sorted();
        most();
        longest();
        latest();
        Desk.close("WarningTest");
    }

    /** A text has just these warnings: numbers stand in it as @n ahead of the places (and are left out). */
    private static void warns(String marked) {
        StringBuilder text = new StringBuilder();
        java.util.List<int[]> want = new java.util.ArrayList<>();
        for (int i = 0; i < marked.length(); i++) {
            if (marked.charAt(i) == '@') {
                i++;
                want.add(new int[] {marked.charAt(i) - '0', text.length()});
            } else {
                text.append(marked.charAt(i));
            }
        }
        Desk desk = new Desk();
        Desk.due("load of " + text, desk.load(text.toString()), 0);
        Desk.due("warnings of " + marked, desk.house.count(3), want.size());
        for (int i = 0; i < want.size(); i++) {
            Desk.due("number of warning " + i + " of " + marked, desk.house.warning(i, 0), want.get(i)[0]);
            Desk.due("place of warning " + i + " of " + marked, desk.house.warning(i, 1), want.get(i)[1]);
        }
        Desk.due("a warning too many", desk.house.warning(want.size(), 0), -1);
        Desk.due("a warning below 0", desk.house.warning(-1, 0), -1);
        Desk.due("another what", desk.house.warning(0, 2), -1);
        Desk.due("another what", desk.house.warning(0, -1), -1);
    }

    private static void none() {
        warns("process p 1..1; start; stop; end;");
        warns("signal s; route r p -> p with s; process p 1..1; start; output s; next a; state a; input s; next -; end;");
    }

    private static void states() {
        warns("process p 1..1; start; next a; state a; state @1b; end;");
        warns("process p 1..1; start; next a; state a; none; next b; state b; end;");
        warns("process p 1..1; start; stop; state @1a; none; next b; state @1b; none; next a; end;");
        warns("process p 1..1; start; next a; state *; none; next b; state a; state b; end;");
        warns("process p 1..1; start; next a; state a, @1b; state b; when true; next c; state @1c, b; end;");
        warns("process p 1..1; var x: int; start; decide x; 1: next a; else: next b; end; state a, b; none; next -; end;");
        warns("signal s; route r env -> p with s; process p 1..1; start; next a; state a; input s; next b; state b; save s; state @1c; end;");
    }

    private static void joins() {
        warns("process p 1..1; start; join l; state @1a; none; l: next b; state b; end;");
        warns("process p 1..1; start; join l; state @1a; none; l: join k; state @1b; none; k: next c; state c; end;");
        warns("process p 1..1; start; l: join l; end;");
        warns("process p 1..1; start; @5l: stop; end;");
        warns("process p 1..1; start; @5l: k: join k; end;");
        warns("process p 1..1; start; @5l: stop; end; process q 1..1; start; l: join l; end;");
        warns("process q 1..1; start; l: join l; end; process p 1..1; start; @5l: stop; state @1a; end;");
        // A join, or a label, of a trans that nothing leads to tells nothing.
        warns("process p 1..1; start; stop; state @1a; none; join l; state @1b; none; l: next c; state @1c; end;");
        warns("process p 1..1; start; join l; state @1a; none; l: stop; state @1b; none; next c; state @1c; end;");
        warns("process p 1..1; start; stop; state @1a; none; @5l: next b; state @1b; end;");
        // The label stands in a trans that tells b, though what is behind the label does not.
        warns("process p 1..1; var x: int; start; join l; state @1a; none; decide x; 1: next b; else: l: stop; end; state b; end;");
    }

    private static void signals() {
        warns("signal @2@3s;");
        warns("signal @3s; route r env -> p with s; process p 1..1; start; stop; end;");
        warns("signal @2s; route r p -> env with s; process p 1..1; start; stop; end;");
        warns("signal @3s; process p 1..1; start; output s to self; stop; end;");
        warns("signal @2@3s; process p 1..1; start; next a; state a; input *; stop; end;");
        warns("signal @2@3s; process p 1..1; start; next a; state a; save s; end;");
        warns("signal @2s; process p 1..1; start; next a; state a; input s; stop; end;");
        warns("signal s; route r env -> env with s;");
        warns("signal @2@3s; route r p -> p with s; process p 1..1; start; stop; end;");
    }

    private static void types() {
        warns("process @4p 0..1; start; stop; end;");
        warns("process p 0..1; start; create p; stop; end;");
        warns("process p 0..0; start; stop; end; process q 1..1; start; create p; stop; end;");
        warns("process p 2..2; start; stop; end; process @4q 0..200; start; create p; stop; end;");
    }

    private static void sorted() {
        warns("process @4q 0..1; start; @5l: stop; state @1a; end; signal @2@3s, @2@3t; process p 1..1; start; stop; state @1b, @1c; end;");
    }

    /** All that a text without faults can be warned of. */
    private static void most() {
        StringBuilder text = new StringBuilder("signal @2@3a");
        for (int i = 1; i < 20; i++) {
            text.append(",@2@3s").append(i);
        }
        text.append(";");
        for (int t = 0; t < 6; t++) {
            text.append("process @4p").append(t).append(" 0..0;start;").append(Desk.repeat("@5l%:", 10)).append("stop;state @1a");
            text.append(Desk.repeat(",@1z%", 11)).append(";end;");
        }
        warns(text.toString());
    }

    /** Chains that go against the text's order. */
    private static void longest() {
        StringBuilder back = new StringBuilder("process p 1..1;start;next z11;");
        StringBuilder gap = new StringBuilder("process p 1..1;start;next z11;");
        StringBuilder join = new StringBuilder("process p 1..1;start;join l9;state @1a;none;l0:next b;");
        for (int k = 0; k < 12; k++) {
            back.append("state z").append(k).append(";none;").append(k == 0 ? "stop;" : "next z" + (k - 1) + ";");
            gap.append("state ").append(k < 6 ? "@1z" : "z").append(k).append(";none;").append(k == 0 ? "stop;" : k == 6 ? "next -;" : "next z" + (k - 1) + ";");
        }
        for (int k = 1; k < 10; k++) {
            join.append("none;l").append(k).append(":join l").append(k - 1).append(";");
        }
        warns(back + "end;");
        warns(gap + "end;");
        warns(join + "state b;none;next c;state @1d;none;next d;state c;end;");
        // By itself alone, or by the two of them alone, no state is come to.
        warns("process p 1..1; start; stop; state @1a; none; next a; end;");
        warns("process p 1..1; start; next c; state @1a; none; next b; state @1b; none; next a; state c; end;");
        warns("process p 1..1; start; next a; state a; none; next -; state @1b; none; next -; end;");
        warns("process p 1..1; start; stop; state *; none; next a; state @1a; end;");
        // What stands behind a decide is of the trans, too.
        warns("process p 1..1; var x: int; start; decide x; 1: x := 2; end; next a; state a; none; decide x; 1: else: end; join l; state @1b; none; decide x; 1: end; l: next c; state c; end;");
        warns("process p 1..1; var x: int; start; decide x; 1: decide x; 1: end; next a; 2: next b; end; next c; state a, b, c; end;");
        // A timer in an input is no signal.
        warns("signal @3s; route e env -> p with s; process p 1..1; timer t; timer u; start; next a; state a; input t, u; next -; end;");
    }

    private static void latest() {
        Desk desk = new Desk();
        Desk.due("load", desk.load("signal s, t;"), 0);
        Desk.due("warnings", desk.house.count(3), 4);
        Desk.due("a fault", desk.load("signal s, s;"), 3);
        Desk.due("the warnings stay", desk.house.count(3), 4);
        Desk.due("the warnings stay", desk.house.warning(3, 1), 10);
        Desk.due("load", desk.load("process p 0..1; start; stop; end;"), 0);
        Desk.due("the warnings are others", desk.house.count(3), 1);
        Desk.due("the warnings are others", desk.house.warning(0, 0), 4);
        desk.house.begin(1);
        Desk.due("a run leaves them", desk.house.warning(0, 1), 8);
        Desk.due("load", desk.load("process p 1..1; start; stop; end;"), 0);
        Desk.due("no warnings", desk.house.count(3), 0);
        Desk.due("load", desk.load("process p 1..1; start; stop; end;"), 0);
        Desk.due("no warnings", desk.house.count(3), 0);
    }
}
