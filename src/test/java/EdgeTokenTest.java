/** The boundaries that TOKENS and SYNTAX name: lengths, longest signs, blanks, notes, keywords, the end of the text. */
public final class EdgeTokenTest {
    private static final String KEYWORDS = "signal route process var timer start state input save when none next stop join output set reset create decide else end "
        + "to via with delay env if prio int bool pid true false null self sender parent offspring now active waiting not and or chart inst alt opt";
    private static final String HEAD = "process p 1..1; var x: int; var y: bool; var a: int[3]; start; ";
    private static final String TAIL = " stop; end;";

    /** A text with all that the grammar has, a blank behind each token; | stands where a text may end. */
    private static final String ALL = "signal s , i ( int ) , m ( int , bool , pid ) ; | signal k ; | "
        + "process p 1 .. 2 ( u : int , v : pid ) ; var x : int ; var y : bool [ 2 ] ; timer t ; start ; l : o : x := 1 ; next z ; "
        + "state z , w ; input s , i ( x ) , t if x < 1 and not y [ 0 ] ; y [ x + 1 ] := true or false ; output m ( 1 , y [ 1 ] , self ) to sender ; output s via r ; output k ; set t now + 5 ; next - ; "
        + "save m ; save k ; when active t prio 3 ; reset t ; create p ( waiting , parent ) ; stop ; none ; "
        + "decide x * 2 / 3 % 4 ; 1 , 2 .. 3 : - 4 .. - 2 : join l ; else : stop ; end ; join o ; "
        + "state * ; when ( x >= 1 ) = ( x /= - 2 ) ; decide y [ 0 ] ; true : stop ; false : end ; next w ; state w ; input * ; stop ; state z ; save * ; end ; | "
        + "route r p -> p delay 1 .. 2 with s , m ; | route e env -> p delay 3 with s ; | route d p -> env with k ; |";

    public static void main(String[] args) {
        names();
        namesApart();
        numbers();
        signs();
        otherSigns();
        blanks();
        notes();
        keywords();
        everyToken();
        firstBytesOfTheTape();
        behindTheEnd();
        Desk.close("EdgeTokenTest");
    }

    private static void names() {
        Desk.good("signal a;");
        Desk.good("signal abcdefghij;");
        Desk.good("signal a________9;");
        Desk.fault(1, "signal @abcdefghijk;");
        Desk.fault(1, "signal @a_________9;");
        Desk.fault(1, "signal @a0123456789;");
        Desk.fault(1, "signal b, @" + Desk.repeat("a", 3000) + ", c;");
        Desk.fault(1, "@signalsignal a;");
        Desk.good("signal abcdefghij, abcdefghik;");
        Desk.good("signal a, a0, a_, aa, a00, a01, a10;");
        Desk.fault(3, "signal abcdefghij, @abcdefghij;");
        Desk.fault(1, "signal @_;");
        Desk.fault(1, "signal @0a;");
        Desk.fault(1, "signal @7;");
        Desk.fault(1, HEAD + "x := @abcdefghijk;" + TAIL);
        Desk.fault(1, HEAD + "next @abcdefghijk;" + TAIL);
    }

    /** Two names that differ in one sign are two. */
    private static void namesApart() {
        String all = "abcdefghijklmnopqrstuvwxyz0123456789_";
        for (int i = 0; i < all.length(); i++) {
            for (int k = 0; k < i; k++) {
                Desk.good("signal a" + all.charAt(i) + ", a" + all.charAt(k) + ";");
                Desk.good("signal q_" + all.charAt(i) + "_zzzzz9, q_" + all.charAt(k) + "_zzzzz9;");
            }
            Desk.fault(3, "signal a" + all.charAt(i) + ", @a" + all.charAt(i) + ";");
        }
    }

    private static void numbers() {
        Desk.good("process p 000000001..000000001; start; stop; end;");
        Desk.fault(1, "process p @0000000001..1; start; stop; end;");
        Desk.fault(1, "process p 1..@0000000001; start; stop; end;");
        Desk.good(HEAD + "x := 999999999;" + TAIL);
        Desk.fault(1, HEAD + "x := @1000000000;" + TAIL);
        Desk.fault(1, HEAD + "x := @" + Desk.repeat("1", 2000) + ";" + TAIL);
        Desk.fault(1, HEAD + "x := 1 + @1a;" + TAIL);
        Desk.fault(1, HEAD + "x := 1 + @1_;" + TAIL);
        Desk.fault(1, HEAD + "x := 1 + @123456789z;" + TAIL);
        Desk.good(HEAD + "x:=1+1*(2)-a[1];" + TAIL);
        Desk.good("signal s; route r env -> env delay 1\nwith s;");
        Desk.fault(1, "signal s; route r env -> env delay @1with s;");
        Desk.fault(1, "signal s; route r env -> env @delay1 with s;");
        Desk.good(HEAD + "decide x; -999999999 .. 999999999: end;" + TAIL);
        Desk.fault(1, HEAD + "decide x; -@1000000000: end;" + TAIL);
        Desk desk = Desk.started(HEAD + "x := 999999999; next z; state z; end;", 1);
        desk.house.run(1);
        Desk.due("nine digits are all of the number", desk.house.cell(1, 0), 999999999);
    }

    /** The longest sign counts. */
    private static void signs() {
        Desk.good(HEAD + "x:=1;y:=x<=1;y:=x>=1;y:=x/=1;y:=x<-1;y:=x>-1;y:=x=-1;" + TAIL);
        Desk.fault(1, HEAD + "x : @= 1;" + TAIL);
        Desk.fault(1, HEAD + "y := x < @= 1;" + TAIL);
        Desk.fault(1, HEAD + "y := x > @= 1;" + TAIL);
        Desk.fault(1, HEAD + "y := x / @= 1;" + TAIL);
        Desk.fault(1, HEAD + "y := x @-> 1;" + TAIL);
        Desk.good(HEAD + "y := x - 1 > 1;" + TAIL);
        Desk.fault(1, HEAD + "y := x - @> 1;" + TAIL);
        Desk.fault(1, HEAD + "y := x =@:= 1;" + TAIL);
        Desk.fault(1, HEAD + "y := x @:= 1;" + TAIL);
        Desk.fault(1, HEAD + "y := x <@>= 1;" + TAIL);
        Desk.fault(1, HEAD + "decide x; 1..@.2: end;" + TAIL);
        Desk.fault(1, HEAD + "decide x; 1@. .2: end;" + TAIL);
        Desk.fault(1, HEAD + "decide x; 1@.2: end;" + TAIL);
        Desk.fault(1, HEAD + "decide x; 1 .. 2 @.. 3: end;" + TAIL);
        Desk.good(HEAD + "decide x; 1..2:x:=1;-2..-1:end;" + TAIL);
        Desk.fault(1, "signal s; route r env @- > env with s;");
        Desk.fault(1, "signal s; route r env @< env with s;");
        Desk.good("signal s;route r env->env with s;");
        Desk.fault(1, "signal s@.");
        Desk.fault(1, "signal s;@..");
    }

    /** One sign does not stand for another. */
    private static void otherSigns() {
        String[] acts = {"x := (1@];", "x := (1@,;", "x := a[1@);", "x := a@(1);", "a[1@) := 1;", "a@(1] := 1;", "output i(1@];", "output i@[1);", "create p(1@];", "x @-> 1;", "x @= 1;", "x @.. 1;", "x @<= 1;",
            "x := 1@:", "x := 1@,", "x := 1@)", "output s@,", "output s@:", "set t 1@,", "decide x@: 1: end;", "decide x; 1@; end;", "decide x; 1 @-> 2: end;", "decide x; 1 @:= 2: end;", "decide x; 1 @- 2: end;",
            "decide x; 1: end@:", "decide x; 1: else@; end;", "next z@:", "stop@,", "join l@."};
        for (String act : acts) {
            Desk.fault(1, HEAD + act + TAIL);
        }
        String[] texts = {"signal s(int@];", "signal s@[int);", "signal s(int@;", "signal a @] b;", "signal a@:", "signal a@.. b;", "signal s; route r env @.. env with s;", "signal s; route r env @:= env with s;",
            "signal s; route r env @- env with s;", "signal s; route r env @: env with s;", "signal s; route r env -> env delay 1 @-> 2 with s;", "signal s; route r env -> env delay 1@, 2 with s;",
            "signal s; route r env -> env with s@: s;", "process p 1 @-> 1; start; stop; end;", "process p 1@, 1; start; stop; end;", "process p 1@: 1; start; stop; end;", "process p 1@; start; stop; end;",
            "process p 1..1 (k: int@]; start; stop; end;", "process p 1..1 @[k: int); start; stop; end;", "process p 1..1 (k @:= int); start; stop; end;", "process p 1..1 (k: int@; l: int); start; stop; end;",
            "process p 1..1; var a: int[2@); start; stop; end;", "process p 1..1; var a: int@(2]; start; stop; end;", "process p 1..1; var x @:= int; start; stop; end;", "process p 1..1; var x@, y: int; start; stop; end;",
            "process p 1..1; timer t@: start; stop; end;", "process p 1..1; start@: stop; end;", "process p 1..1; start; stop; state z@: end;", "process p 1..1; start; stop; state z@[; end;",
            "signal i(int); process p 1..1; var x: int; start; stop; state z; input i(x@]; stop; end;", "signal i(int); process p 1..1; var x: int; start; stop; state z; input i@[x); stop; end;",
            "process p 1..1; start; stop; state z; none@: stop; end;", "process p 1..1; start; stop; state z; save @(; end;", "process p 1..1; start; stop; end@:"};
        for (String text : texts) {
            Desk.fault(1, text);
        }
    }

    /** Each of all bytes between two tokens. */
    private static void blanks() {
        for (int b = 0; b < 256; b++) {
            String text = "signal" + (char) b + "a;";
            boolean blank = b == 9 || b == 10 || b == 13 || b == 32;
            boolean word = b >= 'a' && b <= 'z' || b >= '0' && b <= '9' || b == '_';
            Desk desk = new Desk();
            Desk.due("byte " + b + " between tokens", desk.load(text), blank ? 0 : 1);
            Desk.due("its place, byte " + b, desk.house.place(), blank ? -1 : b == '#' ? text.length() : word ? 0 : 6);
        }
        Desk.good("\t\n\r signal\t\n\r a\t\n\r ;\t\n\r ");
    }

    private static void notes() {
        for (int b = 0; b < 256; b++) {
            Desk desk = new Desk();
            Desk.due("byte " + b + " in a note", desk.load("signal a#" + (char) b + "x\n;"), b == 10 ? 1 : 0);
            Desk.due("its place, byte " + b, desk.house.place(), b == 10 ? 10 : -1);
        }
        Desk.good("#\nsignal#\na#\n;#");
        Desk.good("signal a;# up to the end");
        Desk.good("signal a;##\n##");
        Desk.fault(1, "# just a note@");
        Desk.fault(1, "#@");
        Desk.fault(1, "signal a # ;@");
        Desk.fault(1, "signal a # ;\r ;@");
        Desk.fault(1, "signal a # ;\n@b;");
        Desk.fault(1, "@sig#\nnal a;");
    }

    private static void keywords() {
        String[] words = KEYWORDS.split(" ");
        Desk.due("keywords", words.length, 48);
        for (String word : words) {
            Desk.fault(1, "signal @" + word + ";");
            Desk.fault(1, "signal b, @" + word + ";");
            if (!word.matches("next|stop|join|output|set|reset|create|decide|state|end")) {
                Desk.fault(1, "process p 1..1; start; @" + word + ": stop; end;");
            }
            Desk.good("signal " + word.substring(0, word.length() - 1) + ";");
            if (word.length() < 10) {
                Desk.good("signal " + word + "0, " + word + "_, " + word + "x;");
            }
        }
    }

    private static String[] parts() {
        return ALL.split(" ");
    }

    /** The first n tokens, what stands at the n-th, and whether a text may end there. */
    private static void everyToken() {
        StringBuilder before = new StringBuilder();
        boolean whole = false;
        for (String part : parts()) {
            if (part.equals("|")) {
                whole = true;
                continue;
            }
            if (!whole) {
                Desk.fault(1, before + "@");
                Desk.fault(1, before + " \n# \n@");
            }
            Desk.fault(1, before + "@? " + part + " ;");
            Desk.fault(1, before + "@chart ;");
            Desk.fault(1, before + "@inst ;");
            Desk.fault(1, before + "@. ;");
            before.append(part).append(' ');
            whole = false;
        }
        Desk.good(before.toString());
        // Without the blanks where signs stand it is the same text.
        Desk.good(before.toString().replaceAll(" (?=[^a-z0-9])", "").replaceAll("(?<=[^a-z0-9]) ", ""));
    }

    /** Just the first n bytes of the tape are the text, and then it is empty. */
    private static void firstBytesOfTheTape() {
        String text = "signal a; signal b, a;";
        for (int n = 0; n <= text.length(); n++) {
            Desk desk = new Desk();
            desk.feed(Desk.bytes(text));
            boolean whole = n == 9 || n == 10;
            Desk.due("the first " + n, desk.house.load(n), whole ? 0 : n == 22 ? 3 : 1);
            int place = n == 22 ? 20 : n > 0 && n < 6 ? 0 : n > 10 && n < 16 ? 10 : n;
            Desk.due("place of the first " + n, desk.house.place(), whole ? -1 : place);
            Desk.due("the tape is empty then", desk.house.count(14), 0);
            Desk.due("no byte is left", desk.house.load(1), -2);
            Desk.due("the text of no bytes", desk.house.load(0), 1);
            Desk.due("its place", desk.house.place(), 0);
        }
    }

    /** What stands on the tape behind the first n bytes is none of the text's. */
    private static void behindTheEnd() {
        cut("process p 1", "x", 11);
        cut("process p 1", "_", 11);
        cut("process p 1", "2345678901", 11);
        cut("process p 1.", ".1", 11);
        cut("process p", "pppppppppppp", 9);
        cut("process p 1..1; var x: int; start; x", ":=1;", 36);
        cut("process p 1..1; var x: int; start; x:", "=1;", 37);
        cut("signal s; route r env-", ">env", 21);
        cut("signal s # note", "\n;", 15);
        // At the very end of a full tape.
        for (String end : new String[] {"process p 1", "process p 1..1", "signal abc", "signal a(", "signal a#", "signal a,"}) {
            full(end, 5000);
        }
        full("process p 1.", 4999);
        full("signal a?", 4999);
        full("signal 1", 4999);
    }

    private static void cut(String text, String behind, int place) {
        Desk desk = new Desk();
        desk.feed(Desk.bytes(text + behind));
        Desk.due("just " + text, desk.house.load(text.length()), 1);
        Desk.due("place of just " + text, desk.house.place(), place);
    }

    private static void full(String end, int place) {
        Desk desk = new Desk();
        desk.feed(Desk.bytes(Desk.repeat(" ", 5000 - end.length()) + end));
        Desk.due("all of a full tape, to " + end, desk.house.load(5000), 1);
        Desk.due("its place", desk.house.place(), place);
    }
}
