import java.io.IOException;
import java.nio.file.Files;
import java.nio.file.Path;
import java.util.ArrayList;
import java.util.List;
import java.util.regex.Matcher;
import java.util.regex.Pattern;

/** README.md's example: each call answers the word that its comment begins with. */
public final class ReadmeTest {
    private static final Pattern STEP =
            Pattern.compile("drawer\\.(\\w+)\\(([^)]*)\\); +// (\\w+)\\b.*");

    public static void main(String[] args) throws IOException {
        List<String> steps = new ArrayList<>();
        for (String line : Files.readAllLines(Path.of("README.md"))) {
            if (line.startsWith("drawer.")) {
                steps.add(line);
            }
        }
        Check.same("README.md has an example", steps.isEmpty(), false);
        BoxDrawer drawer = new BoxDrawer();
        for (String step : steps) {
            take(drawer, step);
        }
        Check.end();
    }

    private static void take(BoxDrawer drawer, String step) {
        Matcher parts = STEP.matcher(step);
        if (!parts.matches()) {
            Check.say("README.md: no answer behind the call in: " + step);
            return;
        }
        String got = String.valueOf(answer(drawer, parts.group(1), numbers(parts.group(2))));
        if (!got.equals(parts.group(3))) {
            Check.say("README.md: answered " + got + " to: " + step);
        }
    }

    private static int[] numbers(String text) {
        if (text.isEmpty()) {
            return new int[0];
        }
        String[] parts = text.split(", ");
        int[] all = new int[parts.length];
        for (int i = 0; i < parts.length; i++) {
            all[i] = Integer.parseInt(parts[i]);
        }
        return all;
    }

    private static Object answer(BoxDrawer drawer, String name, int[] a) {
        return switch (name) {
            case "put" -> drawer.put(a[0], a[1], a[2], a[3], a[4]);
            case "take" -> drawer.take(a[0]);
            case "clear" -> drawer.clear();
            case "find" -> drawer.find(a[0], a[1], a[2], a[3], a[4]);
            case "nearest" -> drawer.nearest(a[0], a[1], a[2]);
            case "pairs" -> drawer.pairs();
            case "distance" -> drawer.distance(a[0], a[1], a[2]);
            case "bounds" -> drawer.bounds(a[0]);
            case "result" -> drawer.result(a[0]);
            case "box" -> drawer.box(a[0], a[1]);
            case "count" -> drawer.count(a[0]);
            default -> "no such call";
        };
    }
}
