import java.nio.charset.StandardCharsets;
import java.util.ArrayList;
import java.util.List;
import java.util.Random;

/** The class and the Model answer alike, whatever is asked of them. All chances come of fixed seeds. */
public final class ModelTest {
    private static final int CALLS = 512;
    private static final int TAPE = 5000;

    private final ExchangeHouse house = new ExchangeHouse();
    private final Model model = new Model();
    private final Random random;
    private final ModelAuthor author;
    private final ModelSpoiler spoiler;
    private final long seed;
    private int left = CALLS;

    private ModelTest(long seed) {
        this.seed = seed;
        random = new Random(seed);
        author = new ModelAuthor(random);
        spoiler = new ModelSpoiler(random);
    }

    /** More seeds than those of every day may be told behind the project's folder. */
    public static void main(String[] args) {
        int from = args.length > 2 ? Integer.parseInt(args[1]) : 1;
        int to = args.length > 2 ? Integer.parseInt(args[2]) : 600;
        for (long seed = from; seed <= to; seed++) {
            new ModelTest(seed).live();
            new ModelTest(-seed).read();
        }
        Desk.close("ModelTest");
    }

    private void alike(String call, int got, int want) {
        left--;
        Desk.due("seed " + seed + ": " + call, got, want);
    }

    private int pick(int n) {
        return random.nextInt(n);
    }

    private static String fitting(String text) {
        return text.length() > TAPE ? text.substring(0, TAPE) : text;
    }

    private void feed(String text) {
        byte[] bytes = text.getBytes(StandardCharsets.ISO_8859_1);
        for (int i = 0; i < bytes.length; i += 20) {
            int[] word = new int[5];
            for (int k = 0; k < 20 && i + k < bytes.length; k++) {
                word[k / 4] |= (bytes[i + k] & 255) << (24 - 8 * (k % 4));
            }
            boolean got = house.feed(word[0], word[1], word[2], word[3], word[4]);
            boolean want = model.feed(word[0], word[1], word[2], word[3], word[4]);
            alike("feed", got ? 1 : 0, want ? 1 : 0);
        }
    }

    private void load(String text) {
        feed(text);
        alike("load of " + text, house.load(text.length()), model.load(text.length()));
        alike("place of " + text, house.place(), model.place());
    }

    /** A text in some versions with faults: where they are, and the warnings of those without. */
    private void read() {
        String text = author.text();
        while (left > CALLS / 2) {
            int way = pick(5);
            load(fitting(way == 0 ? text : way < 4 ? spoiler.twist(text) : spoiler.spoil(text)));
            int warnings = model.count(3);
            alike("count 3", house.count(3), warnings);
            for (int i = 0; i <= warnings && left > 0; i++) {
                alike("warning " + i, house.warning(i, i % 2), model.warning(i, i % 2));
            }
        }
    }

    /** A text is loaded, and lives by any calls. */
    private void live() {
        load(fitting(pick(10) < 2 ? spoiler.twist(author.text()) : withoutFaults()));
        int first = pick(1000);
        alike("begin " + first, house.begin(first), model.begin(first));
        while (left > 20) {
            act(pick(15), pick(8), pick(pick(10) > 0 ? 8 : 30));
            for (int i = pick(6); i > 0; i--) {
                look(pick(16), pick(8), pick(8), pick(8));
            }
        }
    }

    private String withoutFaults() {
        String text = author.text();
        for (int tries = 0; tries < 20 && new ModelSystem(fitting(text)).faults.number != 0; tries++) {
            text = author.text();
        }
        return text;
    }

    private void act(int what, int pid, int n) {
        switch (what) {
            case 0, 1, 2:
                alike("run " + n, house.run(n), model.run(n));
                break;
            case 3:
                alike("run 300", house.run(300), model.run(300));
                break;
            case 4, 5:
                alike("go " + pid, house.go(pid), model.go(pid));
                break;
            case 6:
                alike("none " + pid + " " + n % 3, house.none(pid, n % 3), model.none(pid, n % 3));
                break;
            case 7:
                alike("wait " + n, house.wait(n), model.wait(n));
                break;
            case 8, 9, 10:
                int signal = pick(pick(4) > 0 ? 6 : 20);
                int a = pick(5) - 2;
                alike("put " + signal + " to " + pid, house.put(signal, pid, a, n, 1), model.put(signal, pid, a, n, 1));
                break;
            case 11:
                int most = 1 + pick(pick(2) == 0 ? 200 : 20);
                alike("search " + most, house.search(most), model.search(most));
                break;
            case 12:
                alike("visit " + n, house.visit(n), model.visit(n));
                break;
            case 13:
                chart();
                break;
            default:
                anew(n);
                break;
        }
    }

    /** Sometimes another run, or another text. */
    private void anew(int n) {
        if (n == 0 && left > CALLS / 2) {
            load(fitting(pick(2) == 0 ? spoiler.twist(author.text()) : withoutFaults()));
        } else if (n < 3) {
            alike("begin " + n, house.begin(n), model.begin(n));
        }
    }

    private void chart() {
        List<int[]> trace = new ArrayList<>();
        for (int i = 0; i < model.count(13); i++) {
            trace.add(new int[] {model.event(i, 0), model.event(i, 1), model.event(i, 2), model.event(i, 3)});
        }
        String good = author.chart(trace, Math.max(1, model.count(0)));
        int way = pick(10);
        String text = fitting(way < 6 ? good : way < 8 ? spoiler.twist(good) : spoiler.spoil(good));
        if (text.length() / 20 > left - 20) {
            return;
        }
        feed(text);
        alike("chart of " + text, house.chart(text.length()), model.chart(text.length()));
        alike("choices 0", house.choices(0), model.choices(0));
        alike("choices 1", house.choices(1), model.choices(1));
        alike("place", house.place(), model.place());
    }

    private void look(int call, int pid, int what, int i) {
        int some = pick(pick(2) == 0 ? 20 : 520);
        int late = Math.max(0, model.count(13) - 1 - i);
        int found = pick(Math.max(1, model.count(16) + 1));
        switch (call) {
            case 0:
                alike("alive " + i, house.alive(i), model.alive(i));
                break;
            case 1:
                alike("instance " + pid + " " + what, house.instance(pid, what), model.instance(pid, what));
                break;
            case 2:
                alike("cell " + pid + " " + i, house.cell(pid, i), model.cell(pid, i));
                break;
            case 3:
                alike("timer " + pid + " " + i % 4, house.timer(pid, i % 4), model.timer(pid, i % 4));
                break;
            case 4:
                alike("queued " + pid + " " + i % 3 + " " + what, house.queued(pid, i % 3, what), model.queued(pid, i % 3, what));
                break;
            case 5:
                alike("way " + i + " " + some % 3 + " " + what, house.way(i, some % 3, what), model.way(i, some % 3, what));
                break;
            case 6:
                alike("out " + some + " " + what, house.out(some, what), model.out(some, what));
                break;
            case 7:
                alike("event " + some + " " + what % 5, house.event(some, what % 5), model.event(some, what % 5));
                break;
            case 8:
                alike("event " + late + " " + what % 4, house.event(late, what % 4), model.event(late, what % 4));
                break;
            case 9:
                alike("count " + some % 20, house.count(some % 20), model.count(some % 20));
                break;
            case 10:
                alike("type " + i % 4 + " " + what, house.type(i % 4, what), model.type(i % 4, what));
                break;
            case 11:
                alike("state " + found + " " + what, house.state(found, what), model.state(found, what));
                break;
            case 12:
                int b = some % 5 - 1;
                alike("first " + what % 6 + " " + b, house.first(what % 6, i % 4, b), model.first(what % 6, i % 4, b));
                break;
            default:
                alike("event " + late + " 1", house.event(late, 1), model.event(late, 1));
                break;
        }
    }
}
