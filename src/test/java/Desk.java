import java.nio.charset.StandardCharsets;

/** What the tests share: an ExchangeHouse that is fed by texts, and a tally of wrong answers. */
final class Desk {
    private static int asked;
    private static int wrong;

    ExchangeHouse house = new ExchangeHouse();

    static void due(String what, long got, long want) {
        asked++;
        if (got != want) {
            wrong++;
            System.out.println(what + ": answered " + got + ", due is " + want);
        }
    }

    static void due(String what, boolean got, boolean want) {
        due(what, got ? 1 : 0, want ? 1 : 0);
    }

    /** Says how it went, and ends with exit code 1 if an answer was wrong. */
    static void close(String test) {
        System.out.println(test + ": " + asked + " answers, " + wrong + " of them wrong");
        if (wrong != 0 || asked == 0) {
            System.exit(1);
        }
    }

    void feed(byte[] bytes) {
        for (int i = 0; i < bytes.length; i += 20) {
            int[] word = new int[5];
            for (int k = 0; k < 20; k++) {
                int b = i + k < bytes.length ? bytes[i + k] & 255 : 0;
                word[k / 4] |= b << (24 - 8 * (k % 4));
            }
            if (!house.feed(word[0], word[1], word[2], word[3], word[4])) {
                throw new IllegalStateException("the tape is full");
            }
        }
    }

    static byte[] bytes(String text) {
        return text.getBytes(StandardCharsets.ISO_8859_1);
    }

    int load(String text) {
        feed(bytes(text));
        return house.load(text.length());
    }

    int chart(String text) {
        feed(bytes(text));
        return house.chart(text.length());
    }

    /** A text that must be without faults becomes the system, and a run begins. */
    static Desk started(String text, int seed) {
        Desk desk = new Desk();
        due("load of " + text, desk.load(text), 0);
        desk.house.begin(seed);
        return desk;
    }

    /** A text has a fault where the mark @ stands in it (which is left out). */
    static void fault(int number, String marked) {
        Desk desk = new Desk();
        int place = marked.indexOf('@');
        String text = marked.substring(0, place) + marked.substring(place + 1);
        due("fault of " + marked, desk.load(text), number);
        due("place of " + marked, desk.house.place(), place);
    }

    static void good(String text) {
        due("load of " + text, new Desk().load(text), 0);
    }

    /** Four numbers of an event, as one text. */
    String event(int i) {
        return house.event(i, 0) + " " + house.event(i, 1) + " " + house.event(i, 2) + " " + house.event(i, 3);
    }

    /** The events from the i-th on must be these, and the last of the trace. */
    void events(String what, int from, String... want) {
        due(what + ", events in all", house.count(13), from + want.length);
        for (int i = 0; i < want.length; i++) {
            boolean same = event(from + i).equals(want[i]);
            due(what + ", event " + (from + i) + " is " + event(from + i) + ", not " + want[i], same, true);
        }
    }
}
