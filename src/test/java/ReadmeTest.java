import java.io.IOException;
import java.lang.reflect.Method;
import java.lang.reflect.Modifier;
import java.nio.file.Files;
import java.nio.file.Path;
import java.util.ArrayList;
import java.util.List;

/** That README.md tells every call, and that its example, taken from there line by line, answers as it says. */
public final class ReadmeTest {
    private static int checks = 0;
    private static int wrong = 0;

    public static void main(String[] args) throws IOException {
        String readme = Files.readString(Path.of("README.md"));
        everyCallIsTold(readme);
        theExampleAnswersAsTold(exampleOf(readme));
        System.out.println((checks - wrong) + " of " + checks + " answers are as due");
        if (wrong != 0) {
            System.exit(1);
        }
    }

    private static void due(String what, Object got, Object want) {
        checks++;
        if (!got.equals(want)) {
            wrong++;
            System.out.println(what + " answered " + got + ", due is " + want);
        }
    }

    private static void everyCallIsTold(String readme) {
        for (Method method : TriangleSheet.class.getDeclaredMethods()) {
            if (Modifier.isPublic(method.getModifiers())) {
                due("README.md tells " + method.getName(), readme.contains("| `" + method.getName() + "("), true);
            }
        }
    }

    private static List<String> exampleOf(String readme) {
        List<String> lines = new ArrayList<>();
        boolean inside = false;
        for (String line : readme.split("\n")) {
            if (line.startsWith("```")) {
                inside = !inside;
            } else if (inside) {
                lines.add(line);
            }
        }
        return lines;
    }

    private static void theExampleAnswersAsTold(List<String> example) {
        TriangleSheet sheet = new TriangleSheet();
        int a = sheet.point(0, 0);
        int b = sheet.point(511, 0);
        int c = sheet.point(511, 511);
        int d = sheet.point(0, 511);
        int low = sheet.triangle(a, b, c);
        int high = sheet.triangle(a, c, d);
        // From here on each line of the example tells its answer; these are the lines in their order.
        Object[][] answers = {
            {"sheet.fault();", "0", sheet.fault()},
            {"sheet.painted(0);", "1024", sheet.painted(0)},
            {"sheet.painted(1);", "0", sheet.painted(1)},
            {"sheet.beside(low, 2);", "high", sheet.beside(low, 2) == high ? "high" : "another"},
            {"int p = sheet.part(low, 300, 100);", "4", sheet.part(low, 300, 100)},
            {"sheet.isGood(high + 1, 0);", "true", sheet.isGood(high + 1, 0)},
            {"sheet.count(7);", "2", sheet.count(7)},
            {"sheet.improve(500);", "1", sheet.improve(500)},
            {"sheet.count(7);", "0", sheet.count(7)},
            {"sheet.locate(300, 100);", "0", sheet.locate(300, 100)},
        };
        int first = example.size() - answers.length;
        due("the lines before those with answers", first, 7);
        for (int n = 0; n < answers.length && first >= 0; n++) {
            String call = (String) answers[n][0];
            due(call, String.valueOf(answers[n][2]), answers[n][1]);
            due("README.md tells " + call, example.get(first + n).replaceAll(" +", " ").split(": ")[0],
                    call + " // " + answers[n][1]);
        }
    }
}
