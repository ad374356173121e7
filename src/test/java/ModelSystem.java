import java.util.ArrayList;
import java.util.HashMap;
import java.util.HashSet;
import java.util.LinkedHashMap;
import java.util.List;
import java.util.Map;
import java.util.Set;

/** A system as a text tells it, with its faults and warnings; a part of the Model. */
final class ModelSystem {
    /** The grammar, as the document has it. */
    private static final String RULES = """
        text: item item*.
        item: 'signal' sig (',' sig)* ';'
            | 'route' name side '->' side ['delay' number ['..' number]] 'with' name (',' name)* ';'
            | 'process' name number '..' number ['(' par (',' par)* ')'] ';' decl* 'start' ';' trans state* 'end' ';'.
        sig: name ['(' sort (',' sort)* ')'].
        side: name | 'env'.
        par: name ':' sort.
        sort: 'int' | 'bool' | 'pid'.
        decl: 'var' name ':' sort ['[' number ']'] ';' | 'timer' name ';'.
        state: 'state' (name (',' name)* | '*') ';' stim*.
        stim: 'input' in (',' in)* ['if' e] ';' trans | 'save' (name (',' name)* | '*') ';'
            | 'when' e ['prio' number] ';' trans | 'none' ';' trans.
        in: name ['(' name (',' name)* ')'] | '*'.
        trans: part.
        part: act* [last].
        act: label* plain.
        label: name ':'.
        plain: place ':=' e ';' | 'output' name ['(' e (',' e)* ')'] ['to' e | 'via' name] ';' | 'set' name e ';'
            | 'reset' name ';' | 'create' name ['(' e (',' e)* ')'] ';'
            | 'decide' e ';' branch branch* ['else' ':' part] 'end' ';'.
        branch: range (',' range)* ':' part.
        range: bound ['..' bound] | 'true' | 'false'.
        bound: ['-'] number.
        last: label* ('next' (name | '-') ';' | 'stop' ';' | 'join' name ';').
        place: name ['[' e ']'].
        e: con ('or' con)*.
        con: rel ('and' rel)*.
        rel: sum [('=' | '/=' | '<' | '<=' | '>' | '>=') sum].
        sum: prod (('+' | '-') prod)*.
        prod: un (('*' | '/' | '%') un)*.
        un: ('-' | 'not') un | first.
        first: number | 'true' | 'false' | 'null' | 'self' | 'sender' | 'parent' | 'offspring' | 'now' | 'waiting'
            | 'active' name | name ['[' e ']'] | '(' e ')'.
        """;
    private static final ModelGrammar GRAMMAR = new ModelGrammar(RULES);

    static final class Kind {
        String name;
        ModelGrammar.Node node;
        int least;
        int most;
        final List<String> pars = new ArrayList<>();
        final Map<String, String> sorts = new LinkedHashMap<>();
        /** 0 of what is no array. */
        final Map<String, Integer> lengths = new LinkedHashMap<>();
        final List<String> timers = new ArrayList<>();
        final List<String> states = new ArrayList<>();
        final Map<String, Spot> labels = new HashMap<>();
        /** Where to go on behind a part of a decide. */
        final Map<ModelGrammar.Node, Spot> behind = new HashMap<>();
    }

    static final class Route {
        int number;
        Kind from;
        Kind to;
        boolean fromEnv;
        boolean toEnv;
        final Set<String> carries = new HashSet<>();
        boolean delayed;
        boolean drawn;
        int low;
        int high;
    }

    /** An act of a part. */
    record Spot(ModelGrammar.Node part, int index) {
    }

    final Model.Faults faults = new Model.Faults();
    final Map<String, List<String>> signals = new LinkedHashMap<>();
    final Map<String, Route> routes = new LinkedHashMap<>();
    final Map<String, Kind> kinds = new LinkedHashMap<>();
    final List<int[]> warnings = new ArrayList<>();
    private final ModelGrammar.Node root;

    ModelSystem(String text) {
        root = GRAMMAR.read(text, "text");
        if (GRAMMAR.wrong != -1) {
            faults.add(1, GRAMMAR.wrong);
        }
        room();
        if (faults.number == 0) {
            tell();
            judge();
        }
        if (faults.number == 0) {
            warn();
        }
    }

    List<String> sorts(int signal) {
        return new ArrayList<>(signals.values()).get(signal);
    }

    String signalName(int signal) {
        return new ArrayList<>(signals.keySet()).get(signal);
    }

    int signalNumber(String name) {
        return new ArrayList<>(signals.keySet()).indexOf(name);
    }

    int kindNumber(Kind kind) {
        return new ArrayList<>(kinds.values()).indexOf(kind);
    }

    /** The first route told from a type, or env, that carries a signal; to a type, or anywhere. */
    Route route(Kind from, Kind to, int signal, boolean toType) {
        for (Route route : routes.values()) {
            boolean comes = from == null ? route.fromEnv : route.from == from;
            boolean leads = !toType || route.to == to;
            if (comes && leads && route.carries.contains(signalName(signal))) {
                return route;
            }
        }
        return null;
    }

    static List<ModelGrammar.Node> actsOf(ModelGrammar.Node part) {
        List<ModelGrammar.Node> acts = new ArrayList<>(part.nodes("act"));
        acts.addAll(part.nodes("last"));
        return acts;
    }

    static ModelGrammar.Token firstBehindLabels(ModelGrammar.Node act) {
        for (Object one : act.has) {
            if (one instanceof ModelGrammar.Token token) {
                return token;
            }
            if (one instanceof ModelGrammar.Node node && !node.rule.equals("label")) {
                return node.first();
            }
        }
        return null;
    }

    static int number(ModelGrammar.Token token) {
        return Integer.parseInt(token.text());
    }

    static int bound(ModelGrammar.Node bound) {
        int value = number(bound.tokens('0').get(0));
        return bound.has("-") ? -value : value;
    }

    // ROOM

    private void room() {
        if (GRAMMAR.tokens.size() > 1200 && "n0k".indexOf(GRAMMAR.tokens.get(1200).kind()) >= 0) {
            faults.add(2, GRAMMAR.tokens.get(1200));
        }
        roomOpen(root, 0);
        List<ModelGrammar.Token> names = new ArrayList<>();
        for (ModelGrammar.Node sig : root.all("sig")) {
            names.addAll(sig.tokens('n'));
            roomOf(3, sig.nodes("sort"));
        }
        most(20, names);
        names.clear();
        List<ModelGrammar.Token> types = new ArrayList<>();
        for (ModelGrammar.Node item : root.nodes("item")) {
            if (item.has("route") && !item.tokens('n').isEmpty()) {
                names.add(item.name(0));
                for (ModelGrammar.Token number : item.tokens('0')) {
                    numberRoom(number, 0, 200);
                }
            }
            if (item.has("process") && !item.tokens('n').isEmpty()) {
                types.add(item.name(0));
                roomOfKind(item);
            }
        }
        most(10, names);
        most(6, types);
        for (ModelGrammar.Node in : root.all("in")) {
            List<ModelGrammar.Token> given = in.tokens('n');
            if (given.size() > 4) {
                faults.add(2, given.get(4));
            }
        }
        for (ModelGrammar.Node stim : root.all("stim")) {
            for (ModelGrammar.Token number : stim.tokens('0')) {
                numberRoom(number, 0, 9);
            }
        }
        for (ModelGrammar.Node plain : root.all("plain")) {
            roomOfPlain(plain);
        }
    }

    private void most(int most, List<ModelGrammar.Token> names) {
        if (names.size() > most) {
            faults.add(2, names.get(most));
        }
    }

    private void roomOf(int most, List<ModelGrammar.Node> nodes) {
        if (nodes.size() > most && nodes.get(most).first() != null) {
            faults.add(2, nodes.get(most).first());
        }
    }

    private void numberRoom(ModelGrammar.Token number, int least, int most) {
        if (number(number) < least || number(number) > most) {
            faults.add(2, number);
        }
    }

    private void roomOfPlain(ModelGrammar.Node plain) {
        if (plain.has("output") || plain.has("create")) {
            List<ModelGrammar.Node> es = new ArrayList<>();
            for (Object one : plain.has) {
                if (one instanceof ModelGrammar.Token token && token.text().equals("to")) {
                    break;
                }
                if (one instanceof ModelGrammar.Node node && node.rule.equals("e")) {
                    es.add(node);
                }
            }
            roomOf(3, es);
        }
        if (plain.has("decide")) {
            List<ModelGrammar.Node> ranges = new ArrayList<>();
            for (ModelGrammar.Node branch : plain.nodes("branch")) {
                ranges.addAll(branch.nodes("range"));
            }
            ranges.removeIf(range -> range.first() == null);
            roomOf(8, ranges);
        }
    }

    private void roomOfKind(ModelGrammar.Node item) {
        for (ModelGrammar.Token count : item.tokens('0')) {
            numberRoom(count, 0, 200);
        }
        roomOf(3, item.nodes("par"));
        List<ModelGrammar.Token> variables = new ArrayList<>();
        List<ModelGrammar.Token> timers = new ArrayList<>();
        int cells = 0;
        for (ModelGrammar.Node par : item.nodes("par")) {
            variables.addAll(par.tokens('n'));
            cells++;
        }
        for (ModelGrammar.Node decl : item.nodes("decl")) {
            (decl.has("var") ? variables : timers).addAll(decl.tokens('n'));
            if (!decl.has("var") || decl.node("sort") == null || decl.node("sort").first() == null) {
                continue;
            }
            if (decl.has("[")) {
                for (ModelGrammar.Token length : decl.tokens('0')) {
                    numberRoom(length, 1, 8);
                    cells += number(length);
                }
                if (decl.has("]") && cells > 16) {
                    faults.add(2, decl.token("]"));
                }
            } else {
                cells++;
                if (cells > 16) {
                    faults.add(2, decl.node("sort").first());
                }
            }
        }
        most(8, variables);
        most(3, timers);
        Map<String, ModelGrammar.Token> states = new LinkedHashMap<>();
        for (ModelGrammar.Node state : item.nodes("state")) {
            for (ModelGrammar.Token name : state.tokens('n')) {
                states.putIfAbsent(name.text(), name);
            }
        }
        most(12, new ArrayList<>(states.values()));
        List<ModelGrammar.Token> labels = new ArrayList<>();
        for (ModelGrammar.Node label : item.all("label")) {
            if (label.has(":")) {
                labels.add(label.name(0));
            }
        }
        most(10, labels);
    }

    /** How many are open behind a node. */
    private int roomOpen(ModelGrammar.Node node, int before) {
        int open = before;
        int ahead = 0;
        for (Object one : node.has) {
            if (one instanceof ModelGrammar.Node inner) {
                open = roomOpen(inner, open);
                continue;
            }
            ModelGrammar.Token token = (ModelGrammar.Token) one;
            if (token.kind() != 'k') {
                continue;
            }
            boolean sign = node.rule.equals("un");
            if (sign || token.text().equals("(") || token.text().equals("[") || token.text().equals("decide")) {
                open++;
                ahead += sign ? 1 : 0;
                if (open > 12) {
                    faults.add(2, token);
                }
            }
            boolean decided = token.text().equals("end") && node.rule.equals("plain");
            if (decided || token.text().equals(")") || token.text().equals("]")) {
                open--;
            }
        }
        return open - ahead;
    }

    // What the text tells

    private void tell() {
        for (ModelGrammar.Node sig : root.all("sig")) {
            List<String> sorts = new ArrayList<>();
            for (ModelGrammar.Node sort : sig.nodes("sort")) {
                sorts.add(sort.first().text());
            }
            signals.putIfAbsent(sig.name(0).text(), sorts);
        }
        for (ModelGrammar.Node item : root.nodes("item")) {
            if (item.has("process")) {
                Kind kind = new Kind();
                tellKind(item, kind);
                kinds.putIfAbsent(kind.name, kind);
            }
        }
        for (ModelGrammar.Node item : root.nodes("item")) {
            if (item.has("route")) {
                tellRoute(item);
            }
        }
    }

    private void tellRoute(ModelGrammar.Node item) {
        Route route = new Route();
        route.number = routes.size();
        ModelGrammar.Node from = item.nodes("side").get(0);
        ModelGrammar.Node to = item.nodes("side").get(1);
        route.fromEnv = from.has("env");
        route.toEnv = to.has("env");
        route.from = route.fromEnv ? null : kinds.get(from.name(0).text());
        route.to = route.toEnv ? null : kinds.get(to.name(0).text());
        for (ModelGrammar.Token name : item.tokens('n').subList(1, item.tokens('n').size())) {
            route.carries.add(name.text());
        }
        List<ModelGrammar.Token> numbers = item.tokens('0');
        route.delayed = !numbers.isEmpty();
        route.drawn = numbers.size() > 1;
        route.low = route.delayed ? number(numbers.get(0)) : 0;
        route.high = route.drawn ? number(numbers.get(1)) : route.low;
        routes.putIfAbsent(item.name(0).text(), route);
    }

    private static void tellKind(ModelGrammar.Node item, Kind kind) {
        kind.node = item;
        kind.name = item.name(0).text();
        kind.least = number(item.tokens('0').get(0));
        kind.most = number(item.tokens('0').get(1));
        for (ModelGrammar.Node par : item.nodes("par")) {
            kind.pars.add(par.name(0).text());
            kind.sorts.putIfAbsent(par.name(0).text(), par.node("sort").first().text());
            kind.lengths.putIfAbsent(par.name(0).text(), 0);
        }
        for (ModelGrammar.Node decl : item.nodes("decl")) {
            String name = decl.name(0).text();
            if (decl.has("timer")) {
                kind.timers.add(name);
            } else {
                kind.sorts.putIfAbsent(name, decl.node("sort").first().text());
                kind.lengths.putIfAbsent(name, decl.has("[") ? number(decl.tokens('0').get(0)) : 0);
            }
        }
        for (ModelGrammar.Node state : item.nodes("state")) {
            for (ModelGrammar.Token name : state.tokens('n')) {
                if (!kind.states.contains(name.text())) {
                    kind.states.add(name.text());
                }
            }
        }
        for (ModelGrammar.Node trans : item.all("trans")) {
            spots(trans.node("part"), null, kind);
        }
    }

    private static void spots(ModelGrammar.Node part, Spot behind, Kind kind) {
        kind.behind.put(part, behind);
        List<ModelGrammar.Node> acts = actsOf(part);
        for (int i = 0; i < acts.size(); i++) {
            for (ModelGrammar.Node label : acts.get(i).nodes("label")) {
                kind.labels.putIfAbsent(label.name(0).text(), new Spot(part, i));
            }
            ModelGrammar.Node plain = acts.get(i).node("plain");
            if (plain != null && plain.has("decide")) {
                for (ModelGrammar.Node inner : partsOf(plain)) {
                    spots(inner, new Spot(part, i + 1), kind);
                }
            }
        }
    }

    private static List<ModelGrammar.Node> partsOf(ModelGrammar.Node decide) {
        List<ModelGrammar.Node> parts = new ArrayList<>();
        for (ModelGrammar.Node branch : decide.nodes("branch")) {
            parts.add(branch.node("part"));
        }
        parts.addAll(decide.nodes("part"));
        return parts;
    }

    // TWICE, NAME, SORT, FORM

    private void judge() {
        Set<String> told = new HashSet<>();
        for (ModelGrammar.Node item : root.nodes("item")) {
            if (item.has("signal")) {
                for (ModelGrammar.Node sig : item.nodes("sig")) {
                    twice(told, sig.name(0));
                }
            } else {
                twice(told, item.name(0));
            }
        }
        for (ModelGrammar.Node item : root.nodes("item")) {
            if (item.has("route")) {
                judgeRoute(item);
            } else if (item.has("process")) {
                judgeKind(item);
            }
        }
    }

    private boolean twice(Set<String> told, ModelGrammar.Token name) {
        boolean again = !told.add(name.text());
        if (again) {
            faults.add(3, name);
        }
        return again;
    }

    private void judgeRoute(ModelGrammar.Node item) {
        for (ModelGrammar.Node side : item.nodes("side")) {
            if (!side.has("env") && !kinds.containsKey(side.name(0).text())) {
                faults.add(4, side.name(0));
            }
        }
        List<ModelGrammar.Token> numbers = item.tokens('0');
        if (numbers.size() == 2 && number(numbers.get(0)) > number(numbers.get(1))) {
            faults.add(6, numbers.get(1));
        }
        List<ModelGrammar.Token> names = item.tokens('n');
        for (ModelGrammar.Token name : names.subList(1, names.size())) {
            if (!signals.containsKey(name.text())) {
                faults.add(4, name);
            }
        }
    }

    private void judgeKind(ModelGrammar.Node item) {
        // A type that is told twice is judged by what it tells itself.
        Kind kind = new Kind();
        tellKind(item, kind);
        if (kind.least > kind.most) {
            faults.add(6, item.tokens('0').get(1));
        }
        Set<String> told = new HashSet<>();
        for (ModelGrammar.Node par : item.nodes("par")) {
            twice(told, par.name(0));
        }
        for (ModelGrammar.Node decl : item.nodes("decl")) {
            ModelGrammar.Token name = decl.name(0);
            if (!twice(told, name) && decl.has("timer") && signals.containsKey(name.text())) {
                faults.add(3, name);
            }
        }
        Set<String> labels = new HashSet<>();
        for (ModelGrammar.Node label : item.all("label")) {
            twice(labels, label.name(0));
        }
        for (ModelGrammar.Node last : item.node("trans").all("last")) {
            if (last.has("-")) {
                faults.add(6, last.token("-"));
            }
        }
        Set<String> had = new HashSet<>();
        for (ModelGrammar.Node state : item.nodes("state")) {
            List<String> here = new ArrayList<>();
            for (ModelGrammar.Token name : state.tokens('n')) {
                here.add(name.text());
            }
            if (state.has("*")) {
                here.addAll(kind.states);
            }
            for (ModelGrammar.Node stim : state.nodes("stim")) {
                judgeStim(stim, kind, new HashSet<>(here), had);
            }
        }
        for (ModelGrammar.Node trans : item.all("trans")) {
            judgePart(trans.node("part"), kind);
            if (!ends(trans.node("part"))) {
                faults.add(6, behind(trans));
            }
        }
    }

    /** The place of the token behind a node. */
    private int behind(ModelGrammar.Node node) {
        ModelGrammar.Token last = lastOf(node);
        for (int i = 0; i + 1 < GRAMMAR.tokens.size(); i++) {
            if (GRAMMAR.tokens.get(i) == last) {
                return GRAMMAR.tokens.get(i + 1).place();
            }
        }
        throw new IllegalStateException();
    }

    private final Map<ModelGrammar.Node, ModelGrammar.Token> before = new HashMap<>();

    /** The last token of a node, or the one ahead of an empty one. */
    private ModelGrammar.Token lastOf(ModelGrammar.Node node) {
        if (before.isEmpty()) {
            noteBefore(root, null);
        }
        ModelGrammar.Token last = before.get(node);
        List<ModelGrammar.Token> all = new ArrayList<>();
        flatten(node, all);
        return all.isEmpty() ? last : all.get(all.size() - 1);
    }

    private ModelGrammar.Token noteBefore(ModelGrammar.Node node, ModelGrammar.Token ahead) {
        before.put(node, ahead);
        ModelGrammar.Token latest = ahead;
        for (Object one : node.has) {
            latest = one instanceof ModelGrammar.Node inner ? noteBefore(inner, latest) : (ModelGrammar.Token) one;
        }
        return latest;
    }

    private static void flatten(ModelGrammar.Node node, List<ModelGrammar.Token> all) {
        for (Object one : node.has) {
            if (one instanceof ModelGrammar.Node inner) {
                flatten(inner, all);
            } else {
                all.add((ModelGrammar.Token) one);
            }
        }
    }

    private void judgeStim(ModelGrammar.Node stim, Kind kind, Set<String> states, Set<String> had) {
        if (stim.has("save")) {
            for (Object one : stim.has) {
                ModelGrammar.Token token = (ModelGrammar.Token) one;
                if (token.text().equals("*")) {
                    once(token, states, had);
                } else if (token.kind() == 'n') {
                    if (signals.containsKey(token.text()) || kind.timers.contains(token.text())) {
                        once(token, states, had);
                    } else {
                        faults.add(4, token);
                    }
                }
            }
        }
        for (ModelGrammar.Node in : stim.nodes("in")) {
            judgeIn(in, kind, states, had);
        }
        if (stim.node("e") != null) {
            ask(stim.node("e"), "bool", kind);
        }
    }

    private void once(ModelGrammar.Token token, Set<String> states, Set<String> had) {
        for (String state : states) {
            if (!had.add(state + " " + token.text())) {
                faults.add(6, token);
            }
        }
    }

    private void judgeIn(ModelGrammar.Node in, Kind kind, Set<String> states, Set<String> had) {
        if (in.has("*")) {
            once(in.token("*"), states, had);
            return;
        }
        ModelGrammar.Token name = in.name(0);
        List<ModelGrammar.Token> into = in.tokens('n').subList(1, in.tokens('n').size());
        List<String> sorts = null;
        if (signals.containsKey(name.text())) {
            sorts = signals.get(name.text());
        } else if (kind.timers.contains(name.text())) {
            sorts = List.of();
        } else {
            faults.add(4, name);
        }
        boolean fits = sorts != null && (into.isEmpty() || into.size() == sorts.size());
        if (sorts != null && !fits) {
            faults.add(5, name);
        }
        if (fits) {
            once(name, states, had);
        }
        Set<String> told = new HashSet<>();
        for (int i = 0; i < into.size(); i++) {
            ModelGrammar.Token variable = into.get(i);
            if (twice(told, variable)) {
                continue;
            }
            if (!kind.sorts.containsKey(variable.text())) {
                faults.add(4, variable);
            } else if (kind.lengths.get(variable.text()) > 0) {
                faults.add(5, variable);
            } else if (fits && !kind.sorts.get(variable.text()).equals(sorts.get(i))) {
                faults.add(5, variable);
            }
        }
    }

    private boolean ends(ModelGrammar.Node part) {
        if (!part.nodes("last").isEmpty()) {
            return true;
        }
        List<ModelGrammar.Node> acts = part.nodes("act");
        if (acts.isEmpty()) {
            return false;
        }
        ModelGrammar.Node plain = acts.get(acts.size() - 1).node("plain");
        if (!plain.has("decide") || !plain.has("else")) {
            return false;
        }
        for (ModelGrammar.Node inner : partsOf(plain)) {
            if (!ends(inner)) {
                return false;
            }
        }
        return true;
    }

    private void judgePart(ModelGrammar.Node part, Kind kind) {
        for (ModelGrammar.Node act : part.nodes("act")) {
            judgePlain(act.node("plain"), kind);
        }
        for (ModelGrammar.Node last : part.nodes("last")) {
            if (last.has("next") && !last.has("-") && !kind.states.contains(last.name(0).text())) {
                faults.add(4, last.name(0));
            }
            if (last.has("join") && !kind.labels.containsKey(last.name(0).text())) {
                faults.add(4, last.name(0));
            }
        }
    }

    private void judgePlain(ModelGrammar.Node plain, Kind kind) {
        if (plain.has(":=")) {
            ModelGrammar.Node place = plain.node("place");
            String sort = variable(place, kind);
            ask(plain.node("e"), sort, kind);
        } else if (plain.has("output")) {
            judgeOutput(plain, kind);
        } else if (plain.has("set") || plain.has("reset")) {
            if (!kind.timers.contains(plain.name(0).text())) {
                faults.add(4, plain.name(0));
            }
            if (plain.has("set")) {
                ask(plain.node("e"), "int", kind);
            }
        } else if (plain.has("create")) {
            Kind made = kinds.get(plain.name(0).text());
            List<String> sorts = null;
            if (made == null) {
                faults.add(4, plain.name(0));
            } else if (made.pars.size() != plain.nodes("e").size()) {
                faults.add(5, plain.name(0));
            } else {
                sorts = new ArrayList<>();
                for (ModelGrammar.Node par : made.node.nodes("par")) {
                    sorts.add(par.node("sort").first().text());
                }
            }
            for (int i = 0; i < plain.nodes("e").size(); i++) {
                ask(plain.nodes("e").get(i), sorts == null ? null : sorts.get(i), kind);
            }
        } else {
            judgeDecide(plain, kind);
        }
    }

    private void judgeOutput(ModelGrammar.Node plain, Kind kind) {
        List<ModelGrammar.Node> es = plain.nodes("e");
        int count = es.size() - (plain.has("to") ? 1 : 0);
        ModelGrammar.Token name = plain.name(0);
        List<String> sorts = signals.get(name.text());
        if (sorts == null) {
            faults.add(4, name);
        } else if (sorts.size() != count) {
            faults.add(5, name);
            sorts = null;
        }
        for (int i = 0; i < count; i++) {
            ask(es.get(i), sorts == null ? null : sorts.get(i), kind);
        }
        if (plain.has("to")) {
            ask(es.get(count), "pid", kind);
        }
        if (plain.has("via")) {
            ModelGrammar.Token via = plain.name(1);
            Route route = routes.get(via.text());
            if (route == null) {
                faults.add(4, via);
            } else {
                boolean comes = route.from != null && route.from.name.equals(kind.name);
                boolean carries = !signals.containsKey(name.text()) || route.carries.contains(name.text());
                if (!comes || !carries) {
                    faults.add(6, via);
                }
            }
        }
    }

    private void judgeDecide(ModelGrammar.Node plain, Kind kind) {
        String sort = sort(plain.node("e"), kind);
        if ("pid".equals(sort)) {
            faults.add(5, plain.node("e").first());
        }
        for (ModelGrammar.Node branch : plain.nodes("branch")) {
            for (ModelGrammar.Node range : branch.nodes("range")) {
                List<ModelGrammar.Node> bounds = range.nodes("bound");
                if ("int".equals(sort) && bounds.isEmpty() || "bool".equals(sort) && !bounds.isEmpty()) {
                    faults.add(5, range.first());
                }
                if (bounds.size() == 2 && bound(bounds.get(0)) > bound(bounds.get(1))) {
                    faults.add(6, bounds.get(1).first());
                }
            }
            judgePart(branch.node("part"), kind);
        }
        for (ModelGrammar.Node otherwise : plain.nodes("part")) {
            judgePart(otherwise, kind);
        }
    }

    /** The sort of a place, or of a first that is a name; null with a fault. */
    private String variable(ModelGrammar.Node node, Kind kind) {
        ModelGrammar.Token name = node.name(0);
        boolean good = true;
        if (!kind.sorts.containsKey(name.text())) {
            faults.add(4, name);
            good = false;
        } else if (kind.lengths.get(name.text()) > 0 != node.has("[")) {
            faults.add(5, name);
            good = false;
        }
        if (node.has("[")) {
            ask(node.node("e"), "int", kind);
        }
        return good ? kind.sorts.get(name.text()) : null;
    }

    /** Asks whether an e is of a sort (null: of any). */
    private void ask(ModelGrammar.Node node, String want, Kind kind) {
        String sort = sort(node, kind);
        if (sort != null && want != null && !sort.equals(want)) {
            faults.add(5, node.first());
        }
    }

    /** The sort of an e; null if there is a fault in it. */
    private String sort(ModelGrammar.Node node, Kind kind) {
        int before = faults.told;
        String sort = sortOf(node, kind);
        return faults.told == before ? sort : null;
    }

    private String sortOf(ModelGrammar.Node node, Kind kind) {
        if (node.rule.equals("first")) {
            return sortOfFirst(node, kind);
        }
        if (node.rule.equals("un")) {
            if (node.node("un") == null) {
                return sort(node.node("first"), kind);
            }
            String sort = node.has("-") ? "int" : "bool";
            ask(node.node("un"), sort, kind);
            return sort;
        }
        ModelGrammar.Node left = (ModelGrammar.Node) node.has.get(0);
        if (node.has.size() == 1) {
            return sort(left, kind);
        }
        String sign = ((ModelGrammar.Token) node.has.get(1)).text();
        if (sign.equals("=") || sign.equals("/=")) {
            String of = sort(left, kind);
            ask((ModelGrammar.Node) node.has.get(2), of, kind);
            return "bool";
        }
        String of = sign.equals("and") || sign.equals("or") ? "bool" : "int";
        for (int i = 0; i < node.has.size(); i += 2) {
            ask((ModelGrammar.Node) node.has.get(i), of, kind);
        }
        return node.rule.equals("sum") || node.rule.equals("prod") ? "int" : "bool";
    }

    private String sortOfFirst(ModelGrammar.Node node, Kind kind) {
        ModelGrammar.Token token = node.first();
        if (token.kind() == '0') {
            return "int";
        }
        if (token.kind() == 'n') {
            return variable(node, kind);
        }
        return switch (token.text()) {
            case "true", "false" -> "bool";
            case "now", "waiting" -> "int";
            case "(" -> sort(node.node("e"), kind);
            case "active" -> {
                if (!kind.timers.contains(node.name(0).text())) {
                    faults.add(4, node.name(0));
                }
                yield "bool";
            }
            default -> "pid";
        };
    }

    // WARNINGS

    private void warn() {
        Set<String> sent = new HashSet<>();
        Set<String> taken = new HashSet<>();
        Set<String> created = new HashSet<>();
        for (ModelGrammar.Node plain : root.all("plain")) {
            if (plain.has("output")) {
                sent.add(plain.name(0).text());
            }
            if (plain.has("create")) {
                created.add(plain.name(0).text());
            }
        }
        for (ModelGrammar.Node in : root.all("in")) {
            taken.add(in.first().text());
        }
        for (Route route : routes.values()) {
            if (route.fromEnv) {
                sent.addAll(route.carries);
            }
            if (route.toEnv) {
                taken.addAll(route.carries);
            }
        }
        for (ModelGrammar.Node sig : root.all("sig")) {
            warnUnless(sent.contains(sig.name(0).text()), 2, sig.name(0));
            warnUnless(taken.contains(sig.name(0).text()), 3, sig.name(0));
        }
        for (Kind kind : kinds.values()) {
            warnUnless(kind.least > 0 || created.contains(kind.name), 4, kind.node.name(0));
            warnOf(kind);
        }
        warnings.sort((a, b) -> a[1] != b[1] ? a[1] - b[1] : a[0] - b[0]);
    }

    private void warnUnless(boolean good, int number, ModelGrammar.Token at) {
        if (!good) {
            warnings.add(new int[] {number, at.place()});
        }
    }

    private void warnOf(Kind kind) {
        Set<String> come = new HashSet<>();
        List<ModelGrammar.Node> done = new ArrayList<>();
        tells(kind.node.node("trans"), kind, come, done);
        for (int round = 0; round < 20; round++) {
            for (ModelGrammar.Node state : kind.node.nodes("state")) {
                boolean here = state.has("*") && kind.states.stream().anyMatch(come::contains);
                for (ModelGrammar.Token name : state.tokens('n')) {
                    here |= come.contains(name.text());
                }
                for (ModelGrammar.Node stim : state.nodes("stim")) {
                    if (here && stim.node("trans") != null) {
                        tells(stim.node("trans"), kind, come, done);
                    }
                }
            }
        }
        Set<String> first = new HashSet<>();
        for (ModelGrammar.Node state : kind.node.nodes("state")) {
            for (ModelGrammar.Token name : state.tokens('n')) {
                if (first.add(name.text())) {
                    warnUnless(come.contains(name.text()), 1, name);
                }
            }
        }
        Set<String> joined = new HashSet<>();
        for (ModelGrammar.Node last : kind.node.all("last")) {
            if (last.has("join")) {
                joined.add(last.name(0).text());
            }
        }
        for (ModelGrammar.Node label : kind.node.all("label")) {
            warnUnless(joined.contains(label.name(0).text()), 5, label.name(0));
        }
    }

    private void tells(ModelGrammar.Node trans, Kind kind, Set<String> come, List<ModelGrammar.Node> done) {
        if (done.contains(trans)) {
            return;
        }
        done.add(trans);
        for (ModelGrammar.Node last : trans.all("last")) {
            if (last.has("next") && !last.has("-")) {
                come.add(last.name(0).text());
            }
            if (last.has("join")) {
                for (ModelGrammar.Node other : kind.node.all("trans")) {
                    for (ModelGrammar.Node label : other.all("label")) {
                        if (label.name(0).text().equals(last.name(0).text())) {
                            tells(other, kind, come, done);
                        }
                    }
                }
            }
        }
    }
}
