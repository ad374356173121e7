import java.nio.charset.StandardCharsets;
import java.util.function.IntUnaryOperator;

/** What the tests share: an ExchangeHouse that is fed by texts, and a tally of wrong answers. */
final class Desk {
    private static int asked;
    private static int wrong;

    ExchangeHouse house = new ExchangeHouse();
    /** How many of the calls on the house were feeds of texts. */
    int feeds;

    static void due(String what, long got, long want) {
        asked++;
        if (got != want) {
            wrong++;
            String shown = what.length() > 600 ? what.substring(0, 100) + " .. " + what.substring(what.length() - 400) : what;
            System.out.println(shown + ": answered " + got + ", due is " + want);
        }
    }

    static void due(String what, boolean got, boolean want) {
        due(what, got ? 1 : 0, want ? 1 : 0);
    }

    /** Says how it went, and ends with exit code 1 if an answer was wrong. */
    static void close(String test) {
        System.out.println(test + ": " + asked + " answers, " + wrong + " of them wrong");
        if (wrong != 0 || asked == 0) {
            System.exit(1);
        }
    }

    void feed(byte[] bytes) {
        for (int i = 0; i < bytes.length; i += 20) {
            int[] word = new int[5];
            for (int k = 0; k < 20; k++) {
                int b = i + k < bytes.length ? bytes[i + k] & 255 : 0;
                word[k / 4] |= b << (24 - 8 * (k % 4));
            }
            feeds++;
            if (!house.feed(word[0], word[1], word[2], word[3], word[4])) {
                throw new IllegalStateException("the tape is full");
            }
        }
    }

    static byte[] bytes(String text) {
        return text.getBytes(StandardCharsets.ISO_8859_1);
    }

    int load(String text) {
        feed(bytes(text));
        return house.load(text.length());
    }

    int chart(String text) {
        feed(bytes(text));
        return house.chart(text.length());
    }

    /** A text that must be without faults becomes the system, and a run begins. */
    static Desk started(String text, int seed) {
        Desk desk = new Desk();
        due("load of " + text, desk.load(text), 0);
        desk.house.begin(seed);
        return desk;
    }

    /** A text has a fault where the mark @ stands in it (which is left out). */
    static void fault(int number, String marked) {
        Desk desk = new Desk();
        int place = marked.indexOf('@');
        String text = marked.substring(0, place) + marked.substring(place + 1);
        due("fault of " + marked, desk.load(text), number);
        due("place of " + marked, desk.house.place(), place);
    }

    static void good(String text) {
        due("load of " + text, new Desk().load(text), 0);
    }

    /** A part n times; the mark % in it is each one's number from 0 on. */
    static String repeat(String part, int n) {
        StringBuilder text = new StringBuilder();
        for (int i = 0; i < n; i++) {
            text.append(part.replace("%", Integer.toString(i)));
        }
        return text.toString();
    }

    /** All answers of a row of calls, as one text. */
    static String row(int from, int to, IntUnaryOperator call) {
        StringBuilder text = new StringBuilder();
        for (int i = from; i <= to; i++) {
            text.append(call.applyAsInt(i)).append(' ');
        }
        return text.toString();
    }

    /** Two texts must be the same. */
    static void same(String what, String got, String want) {
        due(what + ": answered " + got + ", due is " + want, got.trim().equals(want.trim()), true);
    }

    /** What a house tells of itself, by some 300 calls, none of which changes it. */
    String look() {
        StringBuilder text = new StringBuilder("place " + house.place() + " counts " + row(0, 18, house::count));
        text.append(" choices ").append(row(0, 1, house::choices)).append(" alive ").append(row(0, 4, house::alive));
        for (int k = 0; k < 3; k++) {
            int i = k;
            text.append(" warning ").append(row(0, 1, what -> house.warning(i, what)));
            text.append(" type ").append(row(0, 4, what -> house.type(i, what)));
            text.append(" instance ").append(row(0, 6, what -> house.instance(i + 1, what)));
            text.append(" cells ").append(row(0, 3, what -> house.cell(i + 1, what)));
            text.append(" timers ").append(row(0, 2, what -> house.timer(i + 1, what)));
            text.append(" queued ").append(row(0, 4, what -> house.queued(i + 1, 0, what)));
            text.append(row(0, 4, what -> house.queued(i + 1, 1, what)));
            text.append(" way ").append(row(0, 6, what -> house.way(i, 0, what))).append(row(0, 6, what -> house.way(i, 1, what)));
            text.append(" out ").append(row(0, 5, what -> house.out(i, what)));
            text.append(" state ").append(row(0, 6, what -> house.state(i, what)));
        }
        text.append(" first ").append(row(0, 3, what -> house.first(what, 0, 0))).append(house.first(4, 0, 0));
        for (int i = Math.max(0, house.count(13) - 4); i < house.count(13); i++) {
            text.append(" event ").append(event(i));
        }
        return text.toString();
    }

    /** Four numbers of an event, as one text. */
    String event(int i) {
        return house.event(i, 0) + " " + house.event(i, 1) + " " + house.event(i, 2) + " " + house.event(i, 3);
    }

    /** The events from the i-th on must be these, and the last of the trace. */
    void events(String what, int from, String... want) {
        due(what + ", events in all", house.count(13), from + want.length);
        for (int i = 0; i < want.length; i++) {
            boolean same = event(from + i).equals(want[i]);
            due(what + ", event " + (from + i) + " is " + event(from + i) + ", not " + want[i], same, true);
        }
    }
}
