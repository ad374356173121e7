import java.util.ArrayList;
import java.util.List;
import java.util.Random;
import java.util.regex.Matcher;
import java.util.regex.Pattern;

/** Puts faults into texts and charts at random, for the ModelTest. */
final class ModelSpoiler {
    private static final Pattern TOKEN = Pattern.compile("[a-z0-9_]+|:=|/=|<=|>=|->|\\.\\.|#[^\n]*\n|\\s+|.");
    private static final String[] ANY = ("( ) [ ] , ; : * + / % = < > - := /= <= >= -> .. x s0 s1 p0 p1 r0 q0 t0 v0 lab1 0 1 2 9 10 200 201"
        + " signal route process var timer start state input save when none next stop join output set reset create decide else end"
        + " to via with delay env if prio int bool pid true false null self sender parent offspring now active waiting not and or"
        + " chart inst alt opt").split(" ");
    /** One token of a form is put in the place of another one, so that the grammar stays good most of the time. */
    private static final String[] FORMS = {"[a-z]+[0-9]+", "[0-9]+", "int|bool|pid", "next|join", "env|p[0-9]",
        "true|false|null|self|sender|parent|offspring|now|waiting|v[0-9]+|[0-9]+", "[-+*/%<>=]|and|or|/=|<=|>="};

    private final Random random;

    ModelSpoiler(Random random) {
        this.random = random;
    }

    private int pick(int n) {
        return random.nextInt(n);
    }

    private static List<String> cut(String text) {
        List<String> tokens = new ArrayList<>();
        Matcher token = TOKEN.matcher(text);
        while (token.find()) {
            tokens.add(token.group());
        }
        return tokens;
    }

    /** A text with a few tokens or bytes changed in any way. */
    String spoil(String good) {
        List<String> tokens = cut(good);
        for (int i = 1 + pick(3); i > 0 && tokens.size() > 2; i--) {
            int at = pick(tokens.size());
            String other = tokens.get(pick(tokens.size()));
            String any = " " + ANY[pick(ANY.length)] + " ";
            switch (pick(7)) {
                case 0:
                    tokens.remove(at);
                    break;
                case 1:
                    tokens.add(at, other);
                    break;
                case 2:
                    tokens.add(at, any);
                    break;
                case 3:
                    tokens.set(at, any);
                    break;
                case 4:
                    tokens.set(at, other);
                    break;
                case 5:
                    repeat(tokens, at);
                    break;
                default:
                    tokens.set(at, tokens.get(at) + (char) pick(256));
                    break;
            }
        }
        return String.join("", tokens);
    }

    /** Some tokens many times, which may be more than there is room for. */
    private void repeat(List<String> tokens, int at) {
        List<String> piece = new ArrayList<>(tokens.subList(at, Math.min(tokens.size(), at + 1 + pick(8))));
        for (int n = 1 + pick(14); n > 0; n--) {
            tokens.addAll(at, piece);
        }
    }

    /** A text with a few names, numbers, operands or whole clauses changed. */
    String twist(String good) {
        List<String> tokens = cut(good);
        for (int i = 1 + pick(3); i > 0 && tokens.size() > 20; i--) {
            int at = pick(tokens.size());
            if (tokens.get(at).equals(";")) {
                moveClause(tokens, at);
            } else {
                exchange(tokens, at);
            }
        }
        return String.join("", tokens);
    }

    private void exchange(List<String> tokens, int at) {
        for (int tries = 0; tries < 40; tries++) {
            String other = tokens.get(pick(tokens.size()));
            for (String form : FORMS) {
                if (tokens.get(at).matches(form) && other.matches(form)) {
                    tokens.set(at, other);
                    return;
                }
            }
        }
    }

    /** The clause behind a semicolon goes away, or comes again there or elsewhere. */
    private void moveClause(List<String> tokens, int at) {
        int end = semicolonFrom(tokens, at + 1);
        if (end == tokens.size()) {
            return;
        }
        List<String> clause = new ArrayList<>(tokens.subList(at + 1, end + 1));
        int way = pick(4);
        if (way < 2) {
            tokens.subList(at + 1, end + 1).clear();
        } else if (way == 2) {
            tokens.addAll(at + 1, clause);
        } else {
            tokens.addAll(Math.min(tokens.size(), semicolonFrom(tokens, pick(tokens.size())) + 1), clause);
        }
    }

    private static int semicolonFrom(List<String> tokens, int from) {
        int at = from;
        while (at < tokens.size() && !tokens.get(at).equals(";")) {
            at++;
        }
        return at;
    }
}
