import java.lang.reflect.Method;
import java.nio.file.Files;
import java.nio.file.Path;
import java.util.ArrayList;
import java.util.List;
import java.util.regex.Matcher;
import java.util.regex.Pattern;

/** The calls that README.md shows answer what stands behind them there. */
public final class ReadmeTest {
    private static final Pattern TEXT = Pattern.compile("```text\n(.*?)```", Pattern.DOTALL);
    private static final Pattern CALL = Pattern.compile("house\\.(\\w+)\\((.*)\\);\\s+// (-?\\d+).*");
    private static final Pattern FEED = Pattern.compile("feed\\(house, (\\w+)\\);");

    public static void main(String[] args) throws Exception {
        String readme = Files.readString(Path.of(args.length > 0 ? args[0] : ".", "README.md"));
        List<String> texts = new ArrayList<>();
        Matcher text = TEXT.matcher(readme);
        while (text.find()) {
            texts.add(text.group(1));
        }
        Desk.due("texts in README.md", texts.size(), 2);
        Desk desk = new Desk();
        int calls = 0;
        for (String line : readme.split("\n")) {
            Matcher feed = FEED.matcher(line);
            Matcher call = CALL.matcher(line);
            if (feed.matches()) {
                desk.feed(Desk.bytes(texts.get(feed.group(1).equals("system") ? 0 : 1)));
            } else if (call.matches()) {
                calls++;
                Desk.due(line, answer(desk.house, call.group(1), call.group(2), texts), Integer.parseInt(call.group(3)));
            }
        }
        Desk.due("calls in README.md", calls, 19);
        Desk.close("ReadmeTest");
    }

    private static int answer(ExchangeHouse house, String name, String given, List<String> texts) throws Exception {
        String told = given.replace("system.length()", Integer.toString(texts.get(0).length()))
            .replace("chart.length()", Integer.toString(texts.get(1).length()));
        List<Object> numbers = new ArrayList<>();
        for (String number : told.split(", ")) {
            numbers.add(Integer.parseInt(number));
        }
        for (Method method : ExchangeHouse.class.getMethods()) {
            boolean fits = method.getName().equals(name) && method.getParameterCount() == numbers.size();
            if (fits && method.getReturnType() == int.class) {
                return (int) method.invoke(house, numbers.toArray());
            }
        }
        throw new IllegalArgumentException(name);
    }
}
