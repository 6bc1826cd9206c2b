import java.io.IOException;
import java.lang.reflect.Method;
import java.lang.reflect.Modifier;
import java.nio.file.Files;
import java.nio.file.Path;
import java.util.ArrayList;
import java.util.List;

/** README.md's example is run, and answers what it says; and its table names every call of the face. */
public final class ReadmeTest {
    private static int wrong;

    public static void main(String[] args) throws IOException {
        String readme = Files.readString(Path.of("README.md"));
        String self = Files.readString(Path.of("tests/ReadmeTest.java"));
        List<String> shown = lines(readme, "```java\n", "```\n");
        List<String> run = lines(self, "// ---- the example\n", "// ---- its end\n");
        if (shown.isEmpty() || !shown.equals(run)) {
            tell("the example of README.md is not the one that this test runs");
        }
        example(run);
        everyCallIsNamed(readme);
        System.out.println(wrong == 0 ? "README.md holds" : wrong + " lines of README.md do not hold");
        System.exit(wrong == 0 ? 0 : 1);
    }

    private static void tell(String text) {
        wrong++;
        System.out.println(text);
    }

    private static List<String> lines(String text, String from, String to) {
        List<String> lines = new ArrayList<>();
        int start = text.indexOf(from);
        int end = start < 0 ? -1 : text.indexOf(to, start + from.length());
        if (end >= 0) {
            for (String line : text.substring(start + from.length(), end).split("\n")) {
                if (!line.isBlank()) {
                    lines.add(line.strip());
                }
            }
        }
        return lines;
    }

    private static void example(List<String> shown) {
        // ---- the example
        RoofWater village = new RoofWater();
        village.setWeather(0, 12, 1);            // day 0 of the table: rain 12, leaves 1
        int a = village.build(10, 100, 2, 8);    // 0: a house with roof 10, holds 100, 2 people, garden 8
        int b = village.build(5, 50, 3, 20);     // 1
        int behind = village.chain(a, b);        // 1: what a cannot hold goes to b from now on
        int pipe = village.lay(a, b, 5);         // 0: a pipe that lets 5 through in a day
        int thirst = village.pass(3);            // 0: three days go by, without thirst
        int water = village.house(a, 2);         // 45: the water in a
        int owed = village.owes(b, a);           // 15: what b got from a
        int days = village.lasts(a);             // 6: a has thirst on the sixth day from now on
        int holds = village.needs(a, 4);         // 50: this would be enough for the next four days
        int ahead = village.foresee(14, 0);      // 143: the thirst in the next two weeks
        int valve = village.advise(14);          // -1: to turn a valve would not help
        // ---- its end
        int[] answers = {a, b, behind, pipe, thirst, water, owed, days, holds, ahead, valve};
        int at = 0;
        for (String line : shown) {
            if (line.startsWith("int ") && at < answers.length) {
                due(line, answers[at]);
                at++;
            }
        }
        if (at != answers.length) {
            tell("the example has " + at + " answers, due are " + answers.length);
        }
    }

    /** The number that starts the line's comment is what it answered. */
    private static void due(String line, int got) {
        String said = line.substring(line.indexOf("// ") + 3).split(":")[0];
        if (!said.equals(Integer.toString(got))) {
            tell(line + " answered " + got);
        }
    }

    private static void everyCallIsNamed(String readme) {
        int calls = 0;
        for (Method m : RoofWater.class.getDeclaredMethods()) {
            if (Modifier.isPublic(m.getModifiers())) {
                calls++;
                if (!readme.contains("\n| `" + m.getName() + "(")) {
                    tell("the table of README.md does not name " + m.getName());
                }
            }
        }
        int rows = readme.split("\n\\| `", -1).length - 1;
        if (rows != calls) {
            tell("the table of README.md has " + rows + " rows, due are " + calls);
        }
    }
}
