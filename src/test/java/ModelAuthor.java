import java.util.ArrayList;
import java.util.Collections;
import java.util.List;
import java.util.Random;

/** Writes texts and charts at random that are without faults most of the time, for the ModelTest. */
final class ModelAuthor {
    private static final String[] SORTS = {"int", "bool", "pid"};
    private static final String[] PIDS = {"self", "sender", "sender", "parent", "offspring", "null"};

    private record Variable(String name, String sort, int length) {
    }

    private final Random random;
    private StringBuilder text = new StringBuilder();
    /** Whether the text may have as much of all as there is room for. */
    private boolean large;
    private final List<List<String>> signals = new ArrayList<>();
    private final List<List<String>> pars = new ArrayList<>();
    private final List<String> routes = new ArrayList<>();

    // Of the type at hand.
    private int type;
    private int states;
    private int timers;
    private final List<Variable> variables = new ArrayList<>();
    private final List<String> labels = new ArrayList<>();
    /** Labels that do not stand in the text so far. */
    private final List<String> labelsToTell = new ArrayList<>();

    ModelAuthor(Random random) {
        this.random = random;
    }

    private int pick(int n) {
        return random.nextInt(n);
    }

    private int upTo(int small, int most) {
        return pick(1 + (large ? most : small));
    }

    private String oneOf(String... words) {
        return words[pick(words.length)];
    }

    private boolean maybe(int percent) {
        return pick(100) < percent;
    }

    private void say(String words) {
        text.append(words).append(' ');
    }

    String text() {
        large = maybe(15);
        signals.clear();
        pars.clear();
        routes.clear();
        for (int i = 2 + upTo(3, 18); i > 0; i--) {
            signals.add(someSorts(50));
        }
        for (int i = 1 + upTo(2, 5); i > 0; i--) {
            pars.add(someSorts(40));
        }
        for (int i = 1 + upTo(6, 9); i > 0; i--) {
            routes.add(route(routes.size()));
        }
        List<String> items = new ArrayList<>();
        for (int s = 0; s < signals.size(); s++) {
            items.add("signal s" + s + listed(signals.get(s)) + "; ");
        }
        items.addAll(routes);
        for (int k = 0; k < pars.size(); k++) {
            items.add(process(k));
        }
        if (maybe(20)) {
            Collections.shuffle(items, random);
        }
        return String.join(maybe(30) ? "# a note ;\n" : "", items).trim();
    }

    private List<String> someSorts(int percent) {
        List<String> sorts = new ArrayList<>();
        for (int i = maybe(percent) ? pick(4) : 0; i > 0; i--) {
            sorts.add(oneOf(SORTS));
        }
        return sorts;
    }

    private static String listed(List<String> words) {
        return words.isEmpty() ? "" : "(" + String.join(", ", words) + ")";
    }

    private String route(int r) {
        StringBuilder route = new StringBuilder("route r" + r + " ");
        route.append(maybe(25) ? "env" : "p" + pick(pars.size())).append(" -> ");
        route.append(maybe(20) ? "env" : "p" + pick(pars.size()));
        if (maybe(45)) {
            int low = pick(6);
            route.append(" delay ").append(low).append(maybe(50) ? ".." + (low + pick(5)) : "");
        }
        route.append(" with s").append(pick(signals.size()));
        for (int i = Math.min(6, pick(signals.size() + 1)); i > 0; i--) {
            route.append(", s").append(pick(signals.size()));
        }
        return route.append("; ").toString();
    }

    private String process(int k) {
        text = new StringBuilder();
        type = k;
        variables.clear();
        labels.clear();
        states = maybe(8) ? 0 : 1 + upTo(3, 11);
        int least = maybe(25) && k > 0 ? 0 : 1 + pick(maybe(8) ? 14 : 2);
        List<String> told = new ArrayList<>();
        for (String sort : pars.get(k)) {
            told.add(newVariable(sort, 0) + ": " + sort);
        }
        say("process p" + k + " " + least + ".." + (least + pick(4)) + listed(told) + ";");
        declare();
        for (int i = upTo(2, 10); i > 0; i--) {
            labels.add("lab" + i);
        }
        labelsToTell.clear();
        labelsToTell.addAll(labels);
        say("start;");
        part(0, true, true);
        tellStates();
        String process = text + "end; ";
        for (String label : labelsToTell) {
            process = process.replace("join " + label + ";", "stop;");
        }
        return process;
    }

    private String newVariable(String sort, int length) {
        variables.add(new Variable("v" + variables.size(), sort, length));
        return "v" + (variables.size() - 1);
    }

    private void declare() {
        timers = upTo(2, 3);
        for (int t = 0; t < timers; t++) {
            say("timer t" + t + ";");
        }
        for (int i = upTo(4, 8 - variables.size()); i > 0; i--) {
            String sort = oneOf(SORTS);
            int length = maybe(30) ? 1 + upTo(3, 7) : 0;
            say("var " + newVariable(sort, length) + ": " + sort + (length > 0 ? "[" + length + "]" : "") + ";");
        }
    }

    private void tellStates() {
        boolean star = states > 0 && maybe(15);
        if (star) {
            say("state *;");
            stimuli(1 + pick(2), true);
        }
        for (int s = 0; s < states; s++) {
            boolean withAnother = s > 0 && maybe(15);
            say("state q" + s + (withAnother ? ", q" + pick(s) : "") + ";");
            stimuli(1 + pick(large ? 3 : 6), star || withAnother);
        }
    }

    /** Where a state is told twice it may have a signal twice; so few are told there. */
    private void stimuli(int n, boolean shared) {
        List<String> had = new ArrayList<>();
        for (int i = 0; i < n; i++) {
            int way = pick(10);
            if (way == 0) {
                say("when");
                expression("bool", 2);
                say((maybe(50) ? "prio " + pick(10) : "") + ";");
                part(0, false, true);
            } else if (way == 1) {
                say("none;");
                part(0, false, true);
            } else if (!shared || maybe(15)) {
                stimulus(way == 2, had);
            }
        }
    }

    private void stimulus(boolean saved, List<String> had) {
        List<String> names = new ArrayList<>();
        for (int i = maybe(80) ? 1 : 2; i > 0; i--) {
            int which = pick(signals.size() + timers + 1);
            String timerOrAny = which < signals.size() + timers ? "t" + (which - signals.size()) : "*";
            String name = which < signals.size() ? "s" + which : timerOrAny;
            boolean alone = !saved || !name.equals("*") && !names.contains("*") || names.isEmpty();
            if (alone && (!had.contains(name) || maybe(2))) {
                had.add(name);
                names.add(saved || which >= signals.size() ? name : name + into(signals.get(which)));
            }
        }
        if (names.isEmpty()) {
            return;
        }
        if (saved) {
            say("save " + (names.contains("*") ? "*" : String.join(", ", names)) + ";");
            return;
        }
        say("input " + String.join(", ", names));
        if (maybe(25)) {
            say("if");
            expression("bool", 2);
        }
        say(";");
        part(0, false, true);
    }

    private String into(List<String> sorts) {
        List<String> names = new ArrayList<>();
        for (String sort : sorts) {
            for (int tries = 0; tries < 8 && !variables.isEmpty(); tries++) {
                Variable one = variables.get(pick(variables.size()));
                if (one.sort.equals(sort) && one.length == 0 && !names.contains(one.name)) {
                    names.add(one.name);
                    break;
                }
            }
        }
        return names.size() < sorts.size() ? "" : listed(names);
    }

    private void part(int depth, boolean start, boolean mustEnd) {
        for (int i = pick(depth == 0 ? 4 : 3); i > 0; i--) {
            act(depth, start);
        }
        if (mustEnd && depth < 2 && maybe(10)) {
            decide(depth, start, true);
        } else if (mustEnd || maybe(25)) {
            last(start);
        }
    }

    private void label() {
        if (!labelsToTell.isEmpty() && maybe(30)) {
            say(labelsToTell.remove(0) + ":");
        }
    }

    private void last(boolean start) {
        label();
        int way = pick(type == 0 ? 30 : 15);
        if (way == 0 || states == 0) {
            say("stop;");
        } else if (way < 4 && !labels.isEmpty()) {
            say("join " + labels.get(pick(labels.size())) + ";");
        } else if (way < 7 && !start) {
            say("next -;");
        } else {
            say("next q" + pick(states) + ";");
        }
    }

    private void act(int depth, boolean start) {
        int way = pick(12);
        if (way < 3 && !variables.isEmpty()) {
            label();
            Variable one = variables.get(pick(variables.size()));
            use(one);
            say(":=");
            expression(one.sort, 2);
            say(";");
        } else if (way == 3 && timers > 0) {
            label();
            say("set t" + pick(timers));
            expression("int", 1);
            say(";");
        } else if (way == 4 && timers > 0) {
            say("reset t" + pick(timers) + ";");
        } else if (way == 5) {
            label();
            int k = pick(pars.size());
            say("create p" + k);
            given(pars.get(k));
            say(";");
        } else if (way == 6 && depth < 2) {
            decide(depth, start, false);
        } else {
            output();
        }
    }

    private void given(List<String> sorts) {
        for (int i = 0; i < sorts.size(); i++) {
            say(i == 0 ? "(" : ",");
            expression(sorts.get(i), 2);
        }
        say(sorts.isEmpty() ? "" : ")");
    }

    /** Most of the time a signal that a route carries from here. */
    private void output() {
        int s = maybe(5) ? pick(signals.size()) : -1;
        String via = "";
        for (int tries = 0; tries < 40 && s < 0; tries++) {
            int r = pick(routes.size());
            int carried = pick(signals.size());
            if (routes.get(r).startsWith("route r" + r + " p" + type + " ") && routes.get(r).matches(".* s" + carried + "[,;].*")) {
                s = carried;
                via = "via r" + r;
            }
        }
        if (s < 0) {
            return;
        }
        label();
        say("output s" + s);
        given(signals.get(s));
        if (maybe(25)) {
            say("to");
            expression("pid", 1);
        } else if (maybe(20)) {
            say(via);
        }
        say(";");
    }

    private void decide(int depth, boolean start, boolean mustEnd) {
        label();
        String sort = oneOf("int", "bool");
        say("decide");
        expression(sort, 2);
        say(";");
        for (int i = 1 + pick(3); i > 0; i--) {
            say(range(sort) + (maybe(20) ? ", " + range(sort) : "") + ":");
            part(depth + 1, start, mustEnd);
        }
        if (mustEnd || maybe(40)) {
            say("else:");
            part(depth + 1, start, mustEnd);
        }
        say("end;");
    }

    private String range(String sort) {
        if (sort.equals("bool")) {
            return oneOf("true", "false");
        }
        int low = pick(6) - 2;
        return low + (maybe(40) ? ".." + (low + pick(4)) : "");
    }

    private void expression(String wanted, int depth) {
        String sort = pick(800) == 0 ? oneOf(SORTS) : wanted;
        if (depth == 0 || sort.equals("pid") || maybe(35)) {
            leaf(sort);
        } else if (maybe(15)) {
            say(sort.equals("int") ? "-" : "not");
            leaf(sort);
        } else if (sort.equals("int")) {
            joined("int", depth, maybe(88) ? oneOf("+", "-", "*") : oneOf("/", "%"));
        } else if (maybe(30)) {
            joined("bool", depth, oneOf("and", "or"));
        } else if (maybe(50)) {
            joined("int", depth, oneOf("<", "<=", ">", ">="));
        } else {
            joined(oneOf(SORTS), depth, oneOf("=", "/="));
        }
    }

    private void joined(String sort, int depth, String sign) {
        say("(");
        expression(sort, depth - 1);
        say(sign);
        expression(sort, depth - 1);
        say(")");
    }

    private void use(Variable one) {
        say(one.name);
        if (one.length > 0) {
            say("[");
            if (maybe(80)) {
                say(Integer.toString(pick(one.length)));
            } else {
                expression("int", 1);
            }
            say("]");
        }
    }

    private void leaf(String sort) {
        for (int tries = maybe(60) ? 5 : 0; tries > 0 && !variables.isEmpty(); tries--) {
            Variable one = variables.get(pick(variables.size()));
            if (one.sort.equals(sort)) {
                use(one);
                return;
            }
        }
        if (sort.equals("int")) {
            say(oneOf("now", "waiting", Integer.toString(pick(1000000000)), "0", "1", "2", "3", "4"));
        } else if (sort.equals("bool")) {
            say(timers > 0 && maybe(40) ? "active t" + pick(timers) : oneOf("true", "false"));
        } else {
            say(oneOf(PIDS));
        }
    }

    /** A chart of what a trace has, some of it in alts and opts, that the trace may keep. */
    String chart(List<int[]> trace, int signalCount) {
        text = new StringBuilder("chart; ");
        int insts = 1 + pick(3);
        for (int i = 1; i <= insts; i++) {
            say("inst i" + i + " = " + (maybe(90) ? i : pick(5)) + ";");
        }
        int named = pick(1 << signalCount);
        int open = 0;
        int points = 0;
        for (int[] event : trace) {
            boolean sent = event[0] == 1;
            boolean counts = (sent || event[0] == 2 && event[3] == 0) && event[2] < signalCount && (named >> event[2] & 1) == 1;
            if (!counts) {
                continue;
            }
            if (points < 6 && open < 3 && maybe(12)) {
                points++;
                open++;
                say(oneOf("opt", "alt or"));
            }
            String one = event[1] <= insts ? "i" + event[1] : "env";
            String other = event[3] >= 1 && event[3] <= insts ? "i" + event[3] : "env";
            say((sent ? one + " -> " + other : other + " -> " + one) + ": s" + event[2] + ";");
            if (open > 0 && maybe(30)) {
                open--;
                say("end;");
            }
        }
        say("end;".repeat(open));
        return text.toString().trim();
    }
}
