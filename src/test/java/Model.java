import java.util.ArrayList;
import java.util.HashMap;
import java.util.HashSet;
import java.util.LinkedHashMap;
import java.util.List;
import java.util.Map;
import java.util.Set;

/**
 * A second model of the document, sentence by sentence in its plainest form, with the Java library and without
 * regard for speed or room: the class is held against it.
 */
final class Model {
    static final int NONE = -1;

    private final StringBuilder tape = new StringBuilder();
    private int place = NONE;
    private ModelSystem system;
    private ModelRun world;
    private Log log;
    private Search search;
    private int chartLines;
    private int chartChoices;

    boolean feed(int a, int b, int c, int d, int e) {
        if (tape.length() + 20 > 5000) {
            return false;
        }
        for (int number : new int[] {a, b, c, d, e}) {
            for (int k = 3; k >= 0; k--) {
                tape.append((char) (number >> 8 * k & 255));
            }
        }
        return true;
    }

    int load(int n) {
        if (n < 0 || n > tape.length()) {
            return -2;
        }
        ModelSystem read = new ModelSystem(tape.substring(0, n));
        tape.setLength(0);
        if (read.faults.number != 0) {
            place = read.faults.place;
            return read.faults.number;
        }
        system = read;
        world = null;
        search = null;
        return 0;
    }

    int place() {
        return place;
    }

    int warning(int i, int what) {
        if (system == null || i < 0 || i >= system.warnings.size() || what < 0 || what > 1) {
            return NONE;
        }
        return system.warnings.get(i)[what];
    }

    int begin(int seed) {
        if (system == null) {
            return NONE;
        }
        log = new Log();
        search = null;
        world = new ModelRun(system, log);
        world.seed = seed;
        for (ModelSystem.Kind kind : system.kinds.values()) {
            for (int i = 0; i < kind.least && world.alive.size() < 12; i++) {
                world.make(kind, 0, List.of());
            }
        }
        return world.alive.size();
    }

    int run(int n) {
        if (world == null || n < 1 || n > 1000) {
            return NONE;
        }
        int done = 0;
        while (done < n) {
            world.due();
            ModelRun.Instance next = null;
            for (ModelRun.Instance one : world.alive.values()) {
                if (next == null && one.pid > world.last && world.step(one).what() != 0) {
                    next = one;
                }
            }
            for (ModelRun.Instance one : world.alive.values()) {
                if (next == null && one.pid <= world.last && world.step(one).what() != 0) {
                    next = one;
                }
            }
            if (next != null) {
                turn(next);
                done++;
                continue;
            }
            List<Integer> times = world.times();
            if (times.isEmpty()) {
                return done;
            }
            times.sort(null);
            world.now = times.get(0);
        }
        return done;
    }

    private void turn(ModelRun.Instance one) {
        world.last = one.pid;
        log.steps++;
        world.doStep(one);
    }

    int go(int pid) {
        if (world == null) {
            return NONE;
        }
        world.due();
        ModelRun.Instance one = world.alive.get(pid);
        if (one == null || world.step(one).what() == 0) {
            return 0;
        }
        turn(one);
        return 1;
    }

    int none(int pid, int k) {
        if (world == null) {
            return NONE;
        }
        world.due();
        ModelRun.Instance one = world.alive.get(pid);
        if (one == null || k < 0 || k >= world.nones(one).size()) {
            return 0;
        }
        world.doNone(one, k);
        return 1;
    }

    int wait(int n) {
        if (world == null || n < 0 || n > 1000000) {
            return NONE;
        }
        world.now = Math.min(2000000000, world.now + n);
        return world.now;
    }

    int put(int signal, int pid, int a, int b, int c) {
        if (world == null) {
            return NONE;
        }
        ModelRun.Instance one = world.alive.get(pid);
        if (one == null || signal < 0 || signal >= system.signals.size()) {
            return 0;
        }
        ModelSystem.Route route = system.route(null, one.kind, signal, true);
        if (route == null) {
            return 0;
        }
        int[] given = {a, b, c};
        List<String> sorts = system.sorts(signal);
        int[] values = new int[3];
        for (int i = 0; i < sorts.size(); i++) {
            values[i] = sorts.get(i).equals("bool") ? (given[i] == 0 ? 0 : 1) : given[i];
        }
        world.send(route, new ModelRun.Signal(signal, 0, pid, values, 0));
        return 1;
    }

    int alive(int i) {
        if (world == null || i < 0 || i >= world.alive.size()) {
            return NONE;
        }
        return new ArrayList<>(world.alive.keySet()).get(i);
    }

    private ModelRun.Instance find(int pid) {
        return world == null ? null : world.alive.get(pid);
    }

    int instance(int pid, int what) {
        ModelRun.Instance one = find(pid);
        if (one == null) {
            return NONE;
        }
        return switch (what) {
            case 0 -> system.kindNumber(one.kind);
            case 1 -> one.state == null ? NONE : one.kind.states.indexOf(one.state);
            case 2 -> one.queue.size();
            case 3 -> one.sender;
            case 4 -> one.parent;
            case 5 -> one.offspring;
            case 6 -> world.step(one).what();
            default -> NONE;
        };
    }

    int cell(int pid, int k) {
        ModelRun.Instance one = find(pid);
        if (one == null) {
            return 0;
        }
        int from = 0;
        for (int[] variable : one.variables.values()) {
            if (k >= from && k < from + variable.length) {
                return variable[k - from];
            }
            from += variable.length;
        }
        return 0;
    }

    int timer(int pid, int t) {
        ModelRun.Instance one = find(pid);
        if (one == null || t < 0 || t >= one.kind.timers.size()) {
            return NONE;
        }
        Integer time = one.timers.get(t);
        return time == null ? NONE : time;
    }

    int queued(int pid, int i, int what) {
        ModelRun.Instance one = find(pid);
        if (one == null || i < 0 || i >= one.queue.size()) {
            return NONE;
        }
        ModelRun.Signal signal = one.queue.get(i);
        return switch (what) {
            case 0 -> signal.number();
            case 1 -> signal.sender();
            case 2, 3, 4 -> signal.values()[what - 2];
            default -> NONE;
        };
    }

    int way(int r, int i, int what) {
        if (world == null || r < 0 || r >= system.routes.size() || i < 0 || i >= world.rows.get(r).size()) {
            return NONE;
        }
        ModelRun.Signal signal = world.rows.get(r).get(i);
        return switch (what) {
            case 0 -> signal.number();
            case 1 -> signal.sender();
            case 2 -> signal.receiver();
            case 3 -> signal.time();
            case 4, 5, 6 -> signal.values()[what - 4];
            default -> NONE;
        };
    }

    int out(int i, int what) {
        if (world == null || i < 0 || what < 0 || what > 5) {
            return NONE;
        }
        List<int[]> latest = log.outs.subList(Math.max(0, log.outs.size() - 200), log.outs.size());
        return i < latest.size() ? latest.get(i)[what] : NONE;
    }

    int event(int i, int what) {
        if (world == null || i < 0 || what < 0 || what > 3) {
            return NONE;
        }
        return i < log.trace().size() ? log.trace().get(i)[what] : NONE;
    }

    int count(int what) {
        if (what < 0 || what > 18) {
            return NONE;
        }
        if (what == 14) {
            return tape.length();
        }
        if (system == null || what > 3 && world == null) {
            return 0;
        }
        return switch (what) {
            case 0 -> system.signals.size();
            case 1 -> system.routes.size();
            case 2 -> system.kinds.size();
            case 3 -> system.warnings.size();
            case 4 -> world.now;
            case 5 -> world.alive.size();
            case 6 -> log.made;
            case 7 -> log.lost;
            case 8 -> log.errors;
            case 9 -> log.error;
            case 10 -> log.errorPlace;
            case 11 -> log.steps;
            case 12 -> log.outs.size();
            case 13 -> log.trace().size();
            case 15 -> world.seed;
            case 16 -> search == null ? 0 : search.states.size();
            case 17 -> search != null && search.cut ? 1 : 0;
            default -> search == null ? 0 : search.looked;
        };
    }

    int type(int t, int what) {
        if (system == null || t < 0 || t >= system.kinds.size()) {
            return NONE;
        }
        ModelSystem.Kind kind = new ArrayList<>(system.kinds.values()).get(t);
        return switch (what) {
            case 0 -> kind.states.size();
            case 1 -> kind.lengths.values().stream().mapToInt(n -> Math.max(1, n)).sum();
            case 2 -> kind.timers.size();
            case 3 -> kind.least;
            case 4 -> kind.most;
            default -> NONE;
        };
    }

    int search(int n) {
        if (world == null || n < 1 || n > 200) {
            return NONE;
        }
        search = new Search(world, n);
        return search.states.size();
    }

    int state(int k, int what) {
        if (world == null || search == null || k < 0 || k >= search.states.size()) {
            return NONE;
        }
        Search.Found found = search.states.get(k);
        return switch (what) {
            case 0 -> found.from;
            case 1 -> found.by;
            case 2 -> found.depth;
            case 3 -> found.moves;
            case 4 -> found.lost;
            case 5 -> found.errors;
            case 6 -> found.world.alive.size();
            default -> NONE;
        };
    }

    int first(int what, int a, int b) {
        if (world == null || search == null) {
            return NONE;
        }
        for (int k = 0; k < search.states.size(); k++) {
            Search.Found found = search.states.get(k);
            boolean through = found.moves != NONE;
            boolean waits = false;
            boolean there = false;
            for (ModelRun.Instance one : found.world.alive.values()) {
                waits |= !one.queue.isEmpty();
                int at = one.state == null ? NONE : one.kind.states.indexOf(one.state);
                there |= system.kindNumber(one.kind) == a && at == b;
            }
            boolean is = switch (what) {
                case 0 -> through && found.moves == 0;
                case 1 -> through && found.moves == 0 && waits;
                case 2 -> through && found.lost > 0;
                case 3 -> through && found.errors > 0;
                case 4 -> there;
                default -> false;
            };
            if (is) {
                return k;
            }
        }
        return NONE;
    }

    int visit(int k) {
        if (world == null) {
            return NONE;
        }
        if (search == null || k < 0 || k >= search.states.size()) {
            return 0;
        }
        ModelRun old = world;
        world = new ModelRun(search.states.get(k).world, log);
        world.searching = false;
        world.now = old.now;
        world.seed = old.seed;
        world.last = 0;
        for (ModelRun.Instance one : world.alive.values()) {
            one.timers.replaceAll(time -> time == null ? null : world.now);
        }
        for (List<ModelRun.Signal> row : world.rows) {
            row.replaceAll(s -> new ModelRun.Signal(s.number(), s.sender(), s.receiver(), s.values(), world.now));
        }
        return 1;
    }

    int chart(int n) {
        if (n < 0 || n > tape.length()) {
            return -2;
        }
        String text = tape.substring(0, n);
        tape.setLength(0);
        if (world == null) {
            return NONE;
        }
        Chart chart = new Chart(text, system);
        if (chart.faults.number != 0) {
            place = chart.faults.place;
            return -10 - chart.faults.number;
        }
        chartLines = chart.lines;
        chartChoices = chart.keptBy(log.trace());
        return chartChoices > 0 ? 1 : 0;
    }

    int choices(int what) {
        return what == 0 ? chartLines : what == 1 ? chartChoices : NONE;
    }

    /** The first fault, by its place, then by its number; 1 and 2 ahead of all others. */
    static final class Faults {
        int number;
        int place;
        int told;

        void add(int which, ModelGrammar.Token token) {
            add(which, token.place());
        }

        void add(int which, int where) {
            told++;
            boolean early = which <= 2;
            boolean hadEarly = number == 1 || number == 2;
            boolean ahead = where < place || where == place && which < number;
            if (number == 0 || early && !hadEarly || early == hadEarly && ahead) {
                number = which;
                place = where;
            }
        }
    }

    /** What came of a run. */
    static final class Log {
        final List<int[]> events = new ArrayList<>();
        final List<int[]> outs = new ArrayList<>();
        int made;
        int lost;
        int errors;
        int error;
        int errorPlace;
        int steps;

        List<int[]> trace() {
            return events.subList(Math.max(0, events.size() - 500), events.size());
        }

        void tell(int kind, int who, int signal, int other) {
            events.add(new int[] {kind, who, signal, other});
        }

        void lose(int who, ModelRun.Signal signal) {
            lost++;
            tell(3, who, signal.number(), signal.sender());
        }
    }

    /** All that can come of a run. */
    static final class Search {
        static final class Found {
            ModelRun world;
            int from;
            int by;
            int depth;
            int moves = NONE;
            int lost = NONE;
            int errors = NONE;
        }

        final List<Found> states = new ArrayList<>();
        private final Set<String> known = new HashSet<>();
        boolean cut;
        int looked;

        Search(ModelRun start, int most) {
            add(new ModelRun(start, new Log()), NONE, NONE, 0);
            for (int k = 0; k < states.size() && !cut; k++) {
                Found at = states.get(k);
                int lost = 0;
                int errors = 0;
                int moves = at.world.moves();
                for (int m = 0; m < moves && !cut; m++) {
                    Log came = new Log();
                    ModelRun next = new ModelRun(at.world, came);
                    next.searching = true;
                    next.move(m);
                    looked++;
                    lost += came.lost;
                    errors += came.errors;
                    if (!known.contains(next.looks())) {
                        if (states.size() == most) {
                            cut = true;
                        } else {
                            add(next, k, m, at.depth + 1);
                        }
                    }
                }
                if (!cut) {
                    at.moves = moves;
                    at.lost = lost;
                    at.errors = errors;
                }
            }
        }

        private void add(ModelRun world, int from, int by, int depth) {
            Found found = new Found();
            found.world = world;
            found.from = from;
            found.by = by;
            found.depth = depth;
            states.add(found);
            known.add(world.looks());
        }
    }

    /** A chart. */
    static final class Chart {
        private static final String RULES = """
            chart: 'chart' ';' line*.
            line: 'inst' name '=' number ';' | end '->' end ':' name ';' | 'alt' rows 'end' ';' | 'opt' row 'end' ';'.
            rows: row ('or' row)+.
            row: line*.
            end: name | 'env'.
            """;
        private static final ModelGrammar GRAMMAR = new ModelGrammar(RULES);

        final Faults faults = new Faults();
        final Map<String, Integer> insts = new LinkedHashMap<>();
        private final ModelSystem system;
        private final Set<Integer> named = new HashSet<>();
        private final List<ModelGrammar.Node> points = new ArrayList<>();
        private ModelGrammar.Node root;
        int lines;
        private int told;

        Chart(String text, ModelSystem system) {
            this.system = system;
            root = GRAMMAR.read(text, "chart");
            if (GRAMMAR.wrong != -1) {
                faults.add(1, GRAMMAR.wrong);
            }
            for (ModelGrammar.Node line : root.nodes("line")) {
                room(line, 0);
            }
            if (faults.number == 0) {
                for (ModelGrammar.Node line : root.nodes("line")) {
                    names(line);
                }
            }
        }

        private void room(ModelGrammar.Node line, int within) {
            ModelGrammar.Token first = line.first();
            if (first == null) {
                return;
            }
            if (!line.nodes("end").isEmpty() && line.node("end").first() != null) {
                lines++;
                if (lines > 40) {
                    faults.add(2, first);
                }
            } else if (line.has("inst")) {
                if (!line.tokens('n').isEmpty()) {
                    told++;
                    if (told > 8) {
                        faults.add(2, line.name(0));
                    }
                }
            } else {
                points.add(line);
                if (points.size() > 6 || within == 3) {
                    faults.add(2, first);
                }
                ModelGrammar.Node rows = line.has("alt") ? line.node("rows") : line;
                if (rows == null) {
                    return;
                }
                int ors = 0;
                for (Object one : rows.has) {
                    if (one instanceof ModelGrammar.Token token && token.text().equals("or")) {
                        ors++;
                        if (ors > 3) {
                            faults.add(2, token);
                        }
                    }
                }
                for (ModelGrammar.Node row : rows.nodes("row")) {
                    for (ModelGrammar.Node inner : row.nodes("line")) {
                        room(inner, within + 1);
                    }
                }
            }
        }

        private void names(ModelGrammar.Node line) {
            if (line.has("inst")) {
                if (insts.containsKey(line.name(0).text())) {
                    faults.add(3, line.name(0));
                } else {
                    insts.put(line.name(0).text(), Integer.parseInt(line.tokens('0').get(0).text()));
                }
            } else if (line.has("->")) {
                for (ModelGrammar.Node end : line.nodes("end")) {
                    if (!end.has("env") && !insts.containsKey(end.name(0).text())) {
                        faults.add(4, end.name(0));
                    }
                }
                if (!system.signals.containsKey(line.name(0).text())) {
                    faults.add(4, line.name(0));
                } else {
                    named.add(system.signalNumber(line.name(0).text()));
                }
            } else {
                for (ModelGrammar.Node row : rowsOf(line)) {
                    row.nodes("line").forEach(this::names);
                }
            }
        }

        private static List<ModelGrammar.Node> rowsOf(ModelGrammar.Node point) {
            return point.has("alt") ? point.node("rows").nodes("row") : point.nodes("row");
        }

        int keptBy(List<int[]> trace) {
            List<Map<ModelGrammar.Node, Integer>> choices = new ArrayList<>();
            choose(0, new HashMap<>(), choices);
            int kept = 0;
            for (Map<ModelGrammar.Node, Integer> choice : choices) {
                kept += isKept(trace, choice) ? 1 : 0;
            }
            return kept;
        }

        private void choose(int point, Map<ModelGrammar.Node, Integer> chosen, List<Map<ModelGrammar.Node, Integer>> all) {
            if (all.size() == 1000) {
                return;
            }
            if (point == points.size()) {
                all.add(new HashMap<>(chosen));
                return;
            }
            int ways = points.get(point).has("opt") ? 2 : rowsOf(points.get(point)).size();
            for (int way = 0; way < ways; way++) {
                chosen.put(points.get(point), way);
                choose(point + 1, chosen, all);
            }
        }

        private boolean isKept(List<int[]> trace, Map<ModelGrammar.Node, Integer> choice) {
            for (Map.Entry<String, Integer> inst : insts.entrySet()) {
                List<String> want = new ArrayList<>();
                for (ModelGrammar.Node line : root.nodes("line")) {
                    want(line, choice, inst.getKey(), want);
                }
                List<String> did = new ArrayList<>();
                for (int[] event : trace) {
                    if ((event[0] == 1 || event[0] == 2) && event[1] == inst.getValue() && named.contains(event[2])) {
                        did.add(event[0] + " " + event[2] + " " + event[3]);
                    }
                }
                if (!did.equals(want)) {
                    return false;
                }
            }
            return true;
        }

        private void want(ModelGrammar.Node line, Map<ModelGrammar.Node, Integer> choice, String inst, List<String> want) {
            if (line.has("->")) {
                int signal = system.signalNumber(line.name(0).text());
                String left = line.nodes("end").get(0).first().text();
                String right = line.nodes("end").get(1).first().text();
                if (left.equals(inst)) {
                    want.add("1 " + signal + " " + insts.getOrDefault(right, 0));
                }
                if (right.equals(inst)) {
                    want.add("2 " + signal + " " + insts.getOrDefault(left, 0));
                }
            } else if (!line.has("inst")) {
                List<ModelGrammar.Node> rows = rowsOf(line);
                int way = choice.get(line);
                if (way < rows.size()) {
                    for (ModelGrammar.Node inner : rows.get(way).nodes("line")) {
                        want(inner, choice, inst, want);
                    }
                }
            }
        }
    }
}
