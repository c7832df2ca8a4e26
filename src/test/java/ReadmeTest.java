import java.io.IOException;
import java.lang.reflect.Method;
import java.lang.reflect.Modifier;
import java.nio.file.Files;
import java.nio.file.Path;
import java.util.ArrayList;
import java.util.List;

/** README.md, read from the project's directory: its example answers what it says, its table is whole. */
public final class ReadmeTest extends Checks {
    private static final String SIGN = "// ";
    private static List<String> example = new ArrayList<>();

    public static void main(String[] args) throws IOException {
        List<String> lines = Files.readAllLines(Path.of("README.md"));
        example = between(lines, "```java", "```");
        about("README, the example");
        exampleAnswers();
        dueText("lines that no call here stands for", example.toString(), "[]");
        about("README, the table of calls");
        tableHasEveryCall(lines);
        end();
    }

    private static List<String> between(List<String> lines, String first, String last) {
        List<String> found = new ArrayList<>();
        int begin = lines.indexOf(first) + 1;
        for (int i = begin; begin > 0 && i < lines.size() && !lines.get(i).equals(last); i++) {
            found.add(lines.get(i));
        }
        return found;
    }

    private static void exampleAnswers() {
        next("TooMany x = new TooMany();");
        TooMany x = new TooMany();
        next("int early = x.flight(0, 1, 100, 200, 2, 1000);");
        int early = x.flight(0, 1, 100, 200, 2, 1000);
        next("int later = x.flight(0, 1, 300, 400, 9, 1000);");
        int later = x.flight(0, 1, 300, 400, 9, 1000);
        next("int pair = x.party(early, 2, 5, 100, false);");
        int pair = x.party(early, 2, 5, 100, false);
        next("int one = x.party(early, 1, 1, TooMany.NONE, false);");
        int one = x.party(early, 1, 1, TooMany.NONE, false);
        nextAnswers("x.told(early, 1);", x.told(early, 1));
        nextAnswers("x.cost(early);", x.cost(early));
        nextAnswers("x.leave(early);", x.leave(early));
        nextAnswers("x.late(one, later, TooMany.NONE);", x.late(one, later, TooMany.NONE));
        nextAnswers("x.move();", x.move());
        nextAnswers("x.of(one, 7);", x.of(one, 7));
        nextAnswers("x.off(later, true);", x.off(later, true));
        nextAnswers("x.undo();", x.undo());
        nextAnswers("x.of(one, 7);", x.of(one, 7));
        due("the pair flies", x.of(pair, 0), 0);
    }

    /** Takes the next line of the example, which has this code: its comment. */
    private static String next(String code) {
        String line = example.isEmpty() ? "" : example.remove(0);
        int comment = line.indexOf(SIGN);
        dueText("the next line", comment < 0 ? line : line.substring(0, comment).trim(), code);
        return comment < 0 ? "" : line.substring(comment + SIGN.length());
    }

    private static void nextAnswers(String code, Object answer) {
        String comment = next(code);
        dueText(code, answer.toString(), comment.substring(0, Math.max(0, comment.indexOf(':'))));
    }

    private static void tableHasEveryCall(List<String> lines) {
        for (Method m : TooMany.class.getDeclaredMethods()) {
            if (Modifier.isPublic(m.getModifiers())) {
                due("rows of " + m.getName(), rowsOf(m, lines), 1);
            }
        }
    }

    private static int rowsOf(Method m, List<String> lines) {
        int rows = 0;
        for (String line : lines) {
            String begin = "| `" + m.getName() + "(";
            if (line.startsWith(begin) && line.contains(")`")) {
                String names = line.substring(begin.length(), line.indexOf(")`"));
                rows += (names.isEmpty() ? 0 : names.split(", ").length) == m.getParameterCount() ? 1 : 0;
            }
        }
        return rows;
    }
}
