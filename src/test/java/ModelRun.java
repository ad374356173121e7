import java.util.ArrayList;
import java.util.Arrays;
import java.util.LinkedHashMap;
import java.util.List;
import java.util.Map;
import java.util.TreeMap;

/** The instances and routes of a run; a part of the Model. */
final class ModelRun {
    record Signal(int number, int sender, int receiver, int[] values, int time) {
    }

    /** What a STEP would be: 0 none, 1 a start, 2 a signal with a trans, 3 one that is LOST, 4 a when. */
    record Step(int what, int queued, ModelGrammar.Node stim, ModelGrammar.Node in) {
    }

    static final class Instance {
        int pid;
        ModelSystem.Kind kind;
        String state;
        final Map<String, int[]> variables = new LinkedHashMap<>();
        final List<Signal> queue = new ArrayList<>();
        final List<Integer> timers = new ArrayList<>();
        int sender;
        int parent;
        int offspring;
    }

    /** An error of an instance. */
    private static final class Mistake extends RuntimeException {
        private static final long serialVersionUID = 1;
        final int number;

        Mistake(int number) {
            super(null, null, false, false);
            this.number = number;
        }
    }

    final ModelSystem system;
    final Model.Log log;
    int now;
    int seed;
    int last;
    boolean searching;
    private int next = 1;
    final TreeMap<Integer, Instance> alive = new TreeMap<>();
    final List<List<Signal>> rows = new ArrayList<>();

    ModelRun(ModelSystem system, Model.Log log) {
        this.system = system;
        this.log = log;
        for (int r = 0; r < system.routes.size(); r++) {
            rows.add(new ArrayList<>());
        }
    }

    ModelRun(ModelRun like, Model.Log log) {
        this(like.system, log);
        now = like.now;
        seed = like.seed;
        last = like.last;
        searching = like.searching;
        next = like.next;
        for (Instance one : like.alive.values()) {
            Instance copy = new Instance();
            copy.pid = one.pid;
            copy.kind = one.kind;
            copy.state = one.state;
            one.variables.forEach((name, cells) -> copy.variables.put(name, cells.clone()));
            copy.queue.addAll(one.queue);
            copy.timers.addAll(one.timers);
            copy.sender = one.sender;
            copy.parent = one.parent;
            copy.offspring = one.offspring;
            alive.put(copy.pid, copy);
        }
        for (int r = 0; r < rows.size(); r++) {
            rows.get(r).addAll(like.rows.get(r));
        }
    }

    /** All by which STATES are alike. */
    String looks() {
        StringBuilder text = new StringBuilder();
        text.append(next);
        for (Instance one : alive.values()) {
            text.append('|').append(one.pid).append(' ').append(one.kind.name).append(' ').append(one.state);
            one.variables.forEach((name, cells) -> text.append(' ').append(name).append(Arrays.toString(cells)));
            one.queue.forEach(signal -> text.append(looks(signal)));
            one.timers.forEach(time -> text.append(time == null ? '-' : '+'));
            text.append(' ').append(one.sender).append(' ').append(one.parent).append(' ').append(one.offspring);
        }
        for (List<Signal> row : rows) {
            text.append('>');
            row.forEach(signal -> text.append(looks(signal)));
        }
        return text.toString();
    }

    private static String looks(Signal signal) {
        return "(" + signal.number + " " + signal.sender + " " + signal.receiver + " " + Arrays.toString(signal.values) + ")";
    }

    Instance make(ModelSystem.Kind kind, int parent, List<Integer> given) {
        Instance one = new Instance();
        one.pid = next++;
        one.kind = kind;
        one.parent = parent;
        kind.lengths.forEach((name, length) -> one.variables.put(name, new int[Math.max(1, length)]));
        for (int i = 0; i < given.size(); i++) {
            one.variables.get(kind.pars.get(i))[0] = given.get(i);
        }
        kind.timers.forEach(name -> one.timers.add(null));
        alive.put(one.pid, one);
        log.made++;
        log.tell(0, one.pid, -1, parent);
        return one;
    }

    List<Integer> times() {
        List<Integer> times = new ArrayList<>();
        for (List<Signal> row : rows) {
            for (Signal signal : row) {
                times.add(signal.time);
            }
        }
        for (Instance one : alive.values()) {
            for (Integer time : one.timers) {
                if (time != null) {
                    times.add(time);
                }
            }
        }
        return times;
    }

    void due() {
        for (List<Signal> row : rows) {
            while (!row.isEmpty() && row.get(0).time <= now) {
                arrive(row.remove(0));
            }
        }
        for (Instance one : alive.values()) {
            for (int t = 0; t < one.timers.size(); t++) {
                if (one.timers.get(t) != null && one.timers.get(t) <= now) {
                    ring(one, t);
                }
            }
        }
    }

    private void ring(Instance one, int t) {
        one.timers.set(t, null);
        log.tell(8, one.pid, 100 + t, one.pid);
        arrive(new Signal(100 + t, one.pid, one.pid, new int[3], 0));
    }

    private void arrive(Signal signal) {
        if (signal.receiver == 0) {
            log.outs.add(new int[] {signal.number, signal.sender, now, signal.values[0], signal.values[1], signal.values[2]});
            log.tell(4, 0, signal.number, signal.sender);
            return;
        }
        Instance one = alive.get(signal.receiver);
        if (one == null || one.queue.size() == 6) {
            log.lose(signal.receiver, signal);
        } else {
            one.queue.add(signal);
        }
    }

    void send(ModelSystem.Route route, Signal signal) {
        List<Signal> row = rows.get(route.number);
        if (!route.delayed && row.isEmpty()) {
            arrive(signal);
            return;
        }
        if (row.size() == 6) {
            log.lose(signal.receiver, signal);
            return;
        }
        int delay = route.low;
        if (route.drawn && !searching) {
            seed = seed * 1103515245 + 12345;
            delay += (seed >>> 16) % (route.high - route.low + 1);
        }
        int time = searching ? now : (int) Math.min(2000000000L, (long) now + delay);
        if (!row.isEmpty()) {
            time = Math.max(time, row.get(row.size() - 1).time);
        }
        row.add(new Signal(signal.number, signal.sender, signal.receiver, signal.values, time));
    }

    private List<ModelGrammar.Node> stims(Instance one) {
        List<ModelGrammar.Node> found = new ArrayList<>();
        for (ModelGrammar.Node state : one.kind.node.nodes("state")) {
            boolean here = state.has("*");
            for (ModelGrammar.Token name : state.tokens('n')) {
                here |= name.text().equals(one.state);
            }
            if (here) {
                found.addAll(state.nodes("stim"));
            }
        }
        return found;
    }

    List<ModelGrammar.Node> nones(Instance one) {
        List<ModelGrammar.Node> found = new ArrayList<>();
        if (one.state != null) {
            for (ModelGrammar.Node stim : stims(one)) {
                if (stim.has("none")) {
                    found.add(stim);
                }
            }
        }
        return found;
    }

    void doNone(Instance one, int k) {
        ModelGrammar.Node stim = nones(one).get(k);
        one.sender = one.pid;
        perform(one, stim.node("trans"));
    }

    Step step(Instance one) {
        if (one.state == null) {
            return new Step(1, 0, null, null);
        }
        List<ModelGrammar.Node> stims = stims(one);
        for (int q = 0; q < one.queue.size(); q++) {
            Step step = stepOf(one, q, stims);
            if (step != null) {
                return step;
            }
        }
        ModelGrammar.Node best = null;
        for (ModelGrammar.Node stim : stims) {
            if (stim.has("when") && isTrue(one, stim.node("e")) && (best == null || prio(stim) < prio(best))) {
                best = stim;
            }
        }
        return best == null ? new Step(0, 0, null, null) : new Step(4, 0, best, null);
    }

    private static int prio(ModelGrammar.Node stim) {
        return stim.has("prio") ? Integer.parseInt(stim.tokens('0').get(0).text()) : 0;
    }

    /** The step by a signal of the queue; null if it is KEPT. */
    private Step stepOf(Instance one, int q, List<ModelGrammar.Node> stims) {
        int number = one.queue.get(q).number;
        String name = number >= 100 ? one.kind.timers.get(number - 100) : system.signalName(number);
        for (String told : new String[] {name, "*"}) {
            for (ModelGrammar.Node stim : stims) {
                if (stim.has("save")) {
                    for (Object saved : stim.has) {
                        if (saved instanceof ModelGrammar.Token token && token.kind() != '0' && token.text().equals(told)) {
                            return null;
                        }
                    }
                }
                for (ModelGrammar.Node in : stim.nodes("in")) {
                    if (in.first().text().equals(told)) {
                        boolean good = !stim.has("if") || isTrue(one, stim.node("e"));
                        return good ? new Step(2, q, stim, in) : null;
                    }
                }
            }
        }
        return new Step(3, q, null, null);
    }

    private boolean isTrue(Instance one, ModelGrammar.Node e) {
        try {
            return value(one, e) != 0;
        } catch (Mistake mistake) {
            return false;
        }
    }

    void doStep(Instance one) {
        Step step = step(one);
        if (step.what == 1) {
            perform(one, one.kind.node.node("trans"));
        } else if (step.what == 4) {
            one.sender = one.pid;
            perform(one, step.stim.node("trans"));
        } else {
            Signal signal = one.queue.remove(step.queued);
            one.sender = signal.sender;
            if (step.what == 3) {
                log.lose(one.pid, signal);
                return;
            }
            log.tell(2, one.pid, signal.number, signal.sender);
            List<ModelGrammar.Token> names = step.in.tokens('n');
            for (int i = 1; i < names.size(); i++) {
                one.variables.get(names.get(i).text())[0] = signal.values[i - 1];
            }
            perform(one, step.stim.node("trans"));
        }
    }

    /** Does a trans: acts of a part one by one; a join is where an act is looked up by its label. */
    private void perform(Instance one, ModelGrammar.Node trans) {
        ModelSystem.Spot spot = new ModelSystem.Spot(trans.node("part"), 0);
        int done = 0;
        ModelGrammar.Token act = null;
        try {
            while (true) {
                List<ModelGrammar.Node> acts = ModelSystem.actsOf(spot.part());
                if (spot.index() == acts.size()) {
                    spot = one.kind.behind.get(spot.part());
                    continue;
                }
                ModelGrammar.Node at = acts.get(spot.index());
                act = ModelSystem.firstBehindLabels(at);
                done++;
                if (done > 200) {
                    throw new Mistake(4);
                }
                ModelSystem.Spot behind = new ModelSystem.Spot(spot.part(), spot.index() + 1);
                if (at.rule.equals("act")) {
                    ModelGrammar.Node plain = at.node("plain");
                    spot = behind;
                    if (plain.has("decide")) {
                        ModelGrammar.Node part = decide(one, plain);
                        spot = part == null ? behind : new ModelSystem.Spot(part, 0);
                    } else {
                        plain(one, plain);
                    }
                } else if (at.has("next")) {
                    one.state = at.has("-") ? one.state : at.name(0).text();
                    log.tell(5, one.pid, -1, 0);
                    return;
                } else if (at.has("stop")) {
                    stop(one);
                    return;
                } else {
                    spot = one.kind.labels.get(at.name(0).text());
                }
            }
        } catch (Mistake mistake) {
            log.errors++;
            log.error = mistake.number;
            log.errorPlace = act.place();
            log.tell(7, one.pid, -1, 0);
            stop(one);
        }
    }

    private void stop(Instance one) {
        log.tell(6, one.pid, -1, 0);
        alive.remove(one.pid);
        for (Signal signal : one.queue) {
            log.lose(one.pid, signal);
        }
    }

    /** The part of the first branch of which a range has the value, or of else; null without. */
    private ModelGrammar.Node decide(Instance one, ModelGrammar.Node plain) {
        int value = value(one, plain.node("e"));
        for (ModelGrammar.Node branch : plain.nodes("branch")) {
            for (ModelGrammar.Node range : branch.nodes("range")) {
                boolean within;
                if (range.nodes("bound").isEmpty()) {
                    within = value == (range.has("true") ? 1 : 0);
                } else {
                    int low = ModelSystem.bound(range.nodes("bound").get(0));
                    int high = ModelSystem.bound(range.nodes("bound").get(range.nodes("bound").size() - 1));
                    within = value >= low && value <= high;
                }
                if (within) {
                    return branch.node("part");
                }
            }
        }
        return plain.node("part");
    }

    private void plain(Instance one, ModelGrammar.Node plain) {
        if (plain.has(":=")) {
            ModelGrammar.Node place = plain.node("place");
            int[] cells = one.variables.get(place.name(0).text());
            int index = 0;
            if (place.has("[")) {
                index = index(value(one, place.node("e")), cells);
            }
            cells[index] = value(one, plain.node("e"));
        } else if (plain.has("output")) {
            output(one, plain);
        } else if (plain.has("set")) {
            int t = one.kind.timers.indexOf(plain.name(0).text());
            int by = value(one, plain.node("e"));
            reset(one, t);
            one.timers.set(t, by < 0 ? now : (int) Math.min(2000000000L, (long) now + by));
        } else if (plain.has("reset")) {
            reset(one, one.kind.timers.indexOf(plain.name(0).text()));
        } else {
            ModelSystem.Kind kind = system.kinds.get(plain.name(0).text());
            List<Integer> given = new ArrayList<>();
            for (ModelGrammar.Node e : plain.nodes("e")) {
                given.add(value(one, e));
            }
            int there = 0;
            for (Instance other : alive.values()) {
                there += other.kind == kind ? 1 : 0;
            }
            one.offspring = 0;
            if (there < kind.most && alive.size() < 12) {
                one.offspring = make(kind, one.pid, given).pid;
            }
        }
    }

    private static int index(int value, int[] cells) {
        if (value < 0 || value >= cells.length) {
            throw new Mistake(1);
        }
        return value;
    }

    private static void reset(Instance one, int t) {
        one.timers.set(t, null);
        one.queue.removeIf(signal -> signal.number == 100 + t);
    }

    private void output(Instance one, ModelGrammar.Node plain) {
        int number = system.signalNumber(plain.name(0).text());
        List<ModelGrammar.Node> es = plain.nodes("e");
        int count = es.size() - (plain.has("to") ? 1 : 0);
        int[] values = new int[3];
        for (int i = 0; i < count; i++) {
            values[i] = value(one, es.get(i));
        }
        ModelSystem.Route route;
        int to = 0;
        boolean lost = false;
        if (plain.has("to")) {
            to = value(one, es.get(count));
            if (alive.get(to) == null) {
                log.tell(1, one.pid, number, to);
                log.lose(to, new Signal(number, one.pid, to, values, 0));
                return;
            }
            route = system.route(one.kind, alive.get(to).kind, number, true);
        } else if (plain.has("via")) {
            route = system.routes.get(plain.name(1).text());
        } else {
            route = system.route(one.kind, null, number, false);
        }
        if (route == null) {
            throw new Mistake(3);
        }
        if (!plain.has("to") && route.to != null) {
            for (Instance other : alive.values()) {
                if (to == 0 && other.kind == route.to) {
                    to = other.pid;
                }
            }
            lost = to == 0;
        }
        Signal signal = new Signal(number, one.pid, to, values, 0);
        log.tell(1, one.pid, number, to);
        if (lost) {
            log.lose(0, signal);
        } else {
            send(route, signal);
        }
    }

    private int value(Instance one, ModelGrammar.Node node) {
        switch (node.rule) {
            case "un":
                if (node.node("un") == null) {
                    return value(one, node.node("first"));
                }
                int of = value(one, node.node("un"));
                return node.has("-") ? -of : of == 0 ? 1 : 0;
            case "first":
                return first(one, node);
            default:
                int left = value(one, (ModelGrammar.Node) node.has.get(0));
                for (int i = 1; i + 1 < node.has.size(); i += 2) {
                    int right = value(one, (ModelGrammar.Node) node.has.get(i + 1));
                    left = combine(((ModelGrammar.Token) node.has.get(i)).text(), left, right);
                }
                return left;
        }
    }

    private static int combine(String sign, int left, int right) {
        if (right == 0 && (sign.equals("/") || sign.equals("%"))) {
            throw new Mistake(2);
        }
        return switch (sign) {
            case "or" -> left != 0 || right != 0 ? 1 : 0;
            case "and" -> left != 0 && right != 0 ? 1 : 0;
            case "=" -> left == right ? 1 : 0;
            case "/=" -> left != right ? 1 : 0;
            case "<" -> left < right ? 1 : 0;
            case "<=" -> left <= right ? 1 : 0;
            case ">" -> left > right ? 1 : 0;
            case ">=" -> left >= right ? 1 : 0;
            case "+" -> left + right;
            case "-" -> left - right;
            case "*" -> left * right;
            case "/" -> left / right;
            default -> left % right;
        };
    }

    private int first(Instance one, ModelGrammar.Node node) {
        ModelGrammar.Token token = node.first();
        if (token.kind() == '0') {
            return Integer.parseInt(token.text());
        }
        if (token.kind() == 'n') {
            int[] cells = one.variables.get(token.text());
            return cells[node.has("[") ? index(value(one, node.node("e")), cells) : 0];
        }
        switch (token.text()) {
            case "true":
                return 1;
            case "self":
                return one.pid;
            case "sender":
                return one.sender;
            case "parent":
                return one.parent;
            case "offspring":
                return one.offspring;
            case "now":
                return now;
            case "waiting":
                return one.queue.size();
            case "active":
                int t = one.kind.timers.indexOf(node.name(0).text());
                boolean queued = one.queue.stream().anyMatch(signal -> signal.number == 100 + t);
                return one.timers.get(t) != null || queued ? 1 : 0;
            case "(":
                return value(one, node.node("e"));
            default:
                return 0;
        }
    }

    /** Of a search: how many moves there are. */
    int moves() {
        return moveRow().size();
    }

    void move(int m) {
        moveRow().get(m).run();
    }

    private List<Runnable> moveRow() {
        List<Runnable> moves = new ArrayList<>();
        for (Instance one : alive.values()) {
            if (step(one).what != 0) {
                moves.add(() -> doStep(one));
            }
        }
        for (List<Signal> row : rows) {
            if (!row.isEmpty()) {
                moves.add(() -> arrive(row.remove(0)));
            }
        }
        for (Instance one : alive.values()) {
            for (int t = 0; t < one.timers.size(); t++) {
                int which = t;
                if (one.timers.get(t) != null) {
                    moves.add(() -> ring(one, which));
                }
            }
        }
        for (Instance one : alive.values()) {
            for (int k = 0; k < nones(one).size(); k++) {
                int which = k;
                moves.add(() -> doNone(one, which));
            }
        }
        return moves;
    }
}
