import java.io.IOException;
import java.nio.file.Files;
import java.nio.file.Path;
import java.util.ArrayList;
import java.util.List;
import java.util.regex.Matcher;
import java.util.regex.Pattern;

/** The calls of README.md's example answer what stands behind them there. It runs in the project's directory. */
public final class ReadmeTest {
    private static final Pattern CALL = Pattern.compile("x\\.(\\w+)\\((.*)\\); +// (true|-?\\d+)(:.*)?");

    public static void main(String[] args) throws IOException {
        Checks c = new Checks();
        ObservedBlocks x = new ObservedBlocks();
        List<String> lines = exampleOf(Files.readAllLines(Path.of("README.md")));
        c.due("the example has calls", lines.size() > 20, true);
        for (String line : lines) {
            Matcher call = CALL.matcher(line);
            if (call.matches()) {
                int want = call.group(3).equals("true") ? 1 : Integer.parseInt(call.group(3));
                c.due(line, answer(x, call.group(1), numbersIn(call.group(2))), want);
            } else {
                c.due("a line that is a call: " + line, false, true);
            }
        }
        c.finish("ReadmeTest");
    }

    /** The lines of the java block behind the one that makes the object. */
    private static List<String> exampleOf(List<String> readme) {
        int start = readme.indexOf("ObservedBlocks x = new ObservedBlocks();") + 1;
        List<String> lines = new ArrayList<>(readme.subList(start, readme.size()));
        return lines.subList(0, Math.max(0, lines.indexOf("```")));
    }

    private static int[] numbersIn(String words) {
        String[] each = words.isEmpty() ? new String[0] : words.split(", ");
        int[] numbers = new int[each.length];
        for (int i = 0; i < each.length; i++) {
            numbers[i] = each[i].equals("true") ? 1 : each[i].equals("false") ? 0 : Integer.parseInt(each[i]);
        }
        return numbers;
    }

    private static int answer(ObservedBlocks x, String name, int[] n) {
        return switch (name) {
            case "get" -> x.get(n[0], n[1], n[2], n[3] == 1);
            case "put" -> x.put(n[0], n[1], n[2], n[3], n[4]);
            case "free" -> x.free(n[0]);
            case "change" -> x.change(n[0], n[1], n[2]);
            case "tick" -> x.tick();
            case "deliver" -> x.deliver(n[0]);
            case "lose" -> x.lose(n[0]);
            case "repeat" -> x.repeat(n[0]);
            case "spoil" -> x.spoil(n[0], n[1], n[2]) ? 1 : 0;
            case "waiting" -> x.waiting();
            case "datagram" -> x.datagram(n[0], n[1]);
            case "slot" -> x.slot(n[0], n[1]);
            case "body" -> x.body(n[0], n[1]);
            case "content" -> x.content(n[0], n[1]);
            case "server" -> x.server(n[0]);
            default -> throw new IllegalArgumentException(name);
        };
    }
}
