import java.util.ArrayList;
import java.util.HashMap;
import java.util.List;
import java.util.Map;
import java.util.Set;
import java.util.regex.Matcher;
import java.util.regex.Pattern;

/** Reads texts by a grammar that is written down as in the document; a part of the Model. */
final class ModelGrammar {
    static final Set<String> KEYWORDS = Set.of(("signal route process var timer start state input save when none next stop join"
        + " output set reset create decide else end to via with delay env if prio int bool pid true false null self sender parent"
        + " offspring now active waiting not and or chart inst alt opt").split(" "));
    private static final Pattern GAP = Pattern.compile("([\\t\\n\\r ]|#[^\\n]*+)*+");
    private static final Pattern NAME = Pattern.compile("[a-z][a-z0-9_]*+");
    private static final Pattern NUMBER = Pattern.compile("[0-9]++");
    private static final Pattern SIGN = Pattern.compile(":=|/=|<=|>=|->|\\.\\.|[()\\[\\],;:*+/%=<>-]");

    /** Kinds: n a name, 0 a number, k a keyword or sign, ! what is none, . the end. */
    record Token(char kind, String text, int place) {
    }

    /** A rule of the grammar as it was found in a text; what it has are nodes and tokens. */
    static final class Node {
        final String rule;
        final List<Object> has = new ArrayList<>();

        Node(String rule) {
            this.rule = rule;
        }

        List<Node> nodes(String which) {
            List<Node> found = new ArrayList<>();
            for (Object one : has) {
                if (one instanceof Node node && node.rule.equals(which)) {
                    found.add(node);
                }
            }
            return found;
        }

        Node node(String which) {
            List<Node> found = nodes(which);
            return found.isEmpty() ? null : found.get(0);
        }

        List<Token> tokens(char kind) {
            List<Token> found = new ArrayList<>();
            for (Object one : has) {
                if (one instanceof Token token && token.kind == kind) {
                    found.add(token);
                }
            }
            return found;
        }

        Token token(String text) {
            for (Object one : has) {
                if (one instanceof Token token && token.kind == 'k' && token.text.equals(text)) {
                    return token;
                }
            }
            return null;
        }

        boolean has(String text) {
            return token(text) != null;
        }

        /** The names that stand in it (not in its nodes). */
        Token name(int i) {
            return tokens('n').get(i);
        }

        Token first() {
            for (Object one : has) {
                Token token = one instanceof Node node ? node.first() : (Token) one;
                if (token != null) {
                    return token;
                }
            }
            return null;
        }

        void all(String which, List<Node> found) {
            for (Object one : has) {
                if (one instanceof Node node) {
                    if (node.rule.equals(which)) {
                        found.add(node);
                    }
                    node.all(which, found);
                }
            }
        }

        List<Node> all(String which) {
            List<Node> found = new ArrayList<>();
            all(which, found);
            return found;
        }
    }

    private interface Form {
        boolean match(ModelGrammar g);
    }

    private final Map<String, Form> forms = new HashMap<>();
    private final String source;
    private int at;

    // Of the text at hand.
    List<Token> tokens;
    private int next;
    private int furthest;
    private int stopAt;
    private Node open;

    /** The place of the fault is come to. */
    private static final class Stopped extends RuntimeException {
        private static final long serialVersionUID = 1;

        Stopped() {
            super(null, null, false, false);
        }
    }

    /** Rules as in the document: name: form. name: form. */
    ModelGrammar(String rules) {
        source = rules;
        blank();
        while (at < source.length()) {
            String rule = word();
            expect(':');
            forms.put(rule, choice());
            expect('.');
        }
    }

    private void blank() {
        while (at < source.length() && Character.isWhitespace(source.charAt(at))) {
            at++;
        }
    }

    private char seen() {
        return at < source.length() ? source.charAt(at) : 0;
    }

    private void expect(char c) {
        if (seen() != c) {
            throw new IllegalStateException("no " + c + " at " + source.substring(at));
        }
        at++;
        blank();
    }

    private String word() {
        int from = at;
        while (Character.isLetter(seen())) {
            at++;
        }
        String word = source.substring(from, at);
        blank();
        return word;
    }

    private Form choice() {
        List<Form> ways = new ArrayList<>();
        ways.add(row());
        while (seen() == '|') {
            expect('|');
            ways.add(row());
        }
        return g -> {
            for (Form way : ways) {
                int from = g.next;
                int size = g.open.has.size();
                if (way.match(g)) {
                    return true;
                }
                g.next = from;
                g.cutTo(size);
            }
            return false;
        };
    }

    private void cutTo(int size) {
        while (open.has.size() > size) {
            open.has.remove(open.has.size() - 1);
        }
    }

    private Form row() {
        List<Form> parts = new ArrayList<>();
        while (seen() == '\'' || seen() == '(' || seen() == '[' || Character.isLetter(seen())) {
            Form part = one();
            if (seen() == '*') {
                expect('*');
                part = many(part);
            } else if (seen() == '+') {
                expect('+');
                Form once = part;
                Form more = many(part);
                part = g -> once.match(g) && more.match(g);
            }
            parts.add(part);
        }
        return g -> {
            for (Form part : parts) {
                if (!part.match(g)) {
                    return false;
                }
            }
            return true;
        };
    }

    private static Form maybe(Form part) {
        return g -> {
            int from = g.next;
            int size = g.open.has.size();
            if (!part.match(g)) {
                g.next = from;
                g.cutTo(size);
            }
            return true;
        };
    }

    private static Form many(Form part) {
        return g -> {
            while (true) {
                int from = g.next;
                int size = g.open.has.size();
                if (!part.match(g)) {
                    g.next = from;
                    g.cutTo(size);
                    return true;
                }
            }
        };
    }

    private Form one() {
        if (seen() == '(') {
            expect('(');
            Form form = choice();
            expect(')');
            return form;
        }
        if (seen() == '[') {
            expect('[');
            Form form = choice();
            expect(']');
            return maybe(form);
        }
        if (seen() == '\'') {
            int end = source.indexOf('\'', at + 1);
            String text = source.substring(at + 1, end);
            at = end + 1;
            blank();
            return g -> g.take('k', text);
        }
        String rule = word();
        if (rule.equals("name")) {
            return g -> g.take('n', null);
        }
        if (rule.equals("number")) {
            return g -> g.take('0', null);
        }
        return g -> g.enter(rule);
    }

    private boolean take(char kind, String text) {
        if (next == stopAt) {
            throw new Stopped();
        }
        Token token = tokens.get(next);
        if (token.kind == kind && (text == null || text.equals(token.text))) {
            open.has.add(token);
            next++;
            return true;
        }
        furthest = Math.max(furthest, next);
        return false;
    }

    private boolean enter(String rule) {
        Node node = new Node(rule);
        Node outer = open;
        outer.has.add(node);
        open = node;
        boolean good = forms.get(rule).match(this);
        open = outer;
        return good;
    }

    private static List<Token> cut(String text) {
        List<Token> found = new ArrayList<>();
        Matcher gap = GAP.matcher(text);
        int from = 0;
        while (true) {
            gap.region(from, text.length()).lookingAt();
            from = gap.end();
            if (from == text.length()) {
                found.add(new Token('.', "", from));
                return found;
            }
            Matcher name = NAME.matcher(text).region(from, text.length());
            Matcher number = NUMBER.matcher(text).region(from, text.length());
            Matcher sign = SIGN.matcher(text).region(from, text.length());
            Token token = new Token('!', "", from);
            int end = from;
            if (name.lookingAt()) {
                end = name.end();
                String word = name.group();
                token = word.length() > 10 ? token : new Token(KEYWORDS.contains(word) ? 'k' : 'n', word, from);
            } else if (number.lookingAt()) {
                end = number.end();
                boolean tied = end < text.length() && (text.charAt(end) == '_' || text.charAt(end) >= 'a' && text.charAt(end) <= 'z');
                token = end - from > 9 || tied ? token : new Token('0', number.group(), from);
            } else if (sign.lookingAt()) {
                end = sign.end();
                token = new Token('k', sign.group(), from);
            }
            found.add(token);
            if (token.kind == '!') {
                return found;
            }
            from = end;
        }
    }

    /** The place of a SYNTAX fault, or -1. */
    int wrong;

    /** What a text has, up to its first SYNTAX fault. */
    Node read(String text, String rule) {
        tokens = cut(text);
        furthest = 0;
        stopAt = -1;
        Node root = go(rule);
        boolean good = root != null && tokens.get(next).kind == '.';
        if (good) {
            wrong = -1;
            return root;
        }
        if (root != null) {
            furthest = Math.max(furthest, next);
        }
        wrong = tokens.get(furthest).place;
        stopAt = furthest;
        Node all = new Node("");
        open = all;
        next = 0;
        try {
            enter(rule);
        } catch (Stopped stopped) {
            // What stands ahead of the fault was found.
        }
        return (Node) all.has.get(0);
    }

    private Node go(String rule) {
        Node all = new Node("");
        open = all;
        next = 0;
        return enter(rule) ? (Node) all.has.get(0) : null;
    }
}
