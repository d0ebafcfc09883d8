import java.nio.file.Files;
import java.nio.file.Path;
import java.util.ArrayList;
import java.util.List;
import java.util.regex.Matcher;
import java.util.regex.Pattern;

/** README.md tells every call of the face and every answer, and its examples answer what stands behind them. */
public final class ReadmeTest {
    private static final Pattern EXAMPLE = Pattern.compile("x\\.(\\w+)\\((.*?)\\); +// (-?\\d+|NO)\\b.*");

    public static void main(String[] args) throws Exception {
        String page = Files.readString(Path.of("README.md"));
        calls(page);
        answers(page);
        int blocks = 0;
        Matcher block = Pattern.compile("(?s)```java\n(.*?)```").matcher(page);
        while (block.find()) {
            blocks++;
            Check.about("README.md, examples " + blocks);
            examples(block.group(1).split("\n"));
        }
        must("README.md has examples", blocks > 0);
        Check.end("ReadmeTest");
    }

    private static void must(String what, boolean holds) {
        Check.due(what, holds ? 1 : 0, 1);
    }

    private static void calls(String page) throws Exception {
        Check.about("README.md, calls");
        String source = Files.readString(Path.of("src/main/java/PointShares.java"));
        Matcher call = Pattern.compile("(?m)^    public ((?:int|long) \\w+\\(.*\\)) \\{").matcher(source);
        int seen = 0;
        while (call.find()) {
            seen++;
            must(call.group(1) + " is told", page.contains("| `" + call.group(1) + "` | "));
        }
        Check.due("calls of the face", seen, 38);
        must("the constructor is told", page.contains("`new PointShares()`"));
    }

    private static void answers(String page) {
        Check.about("README.md, answers");
        String[] rows = {"`NONE` (-1)", "`BAD` (-2)", "`STATE` (-3)", "`FULL` (-4)", "`NO` (`Long.MIN_VALUE`)", "-5", "-11",
            "-12", "-13", "-14"};
        for (String row : rows) {
            must(row + " is told", page.contains("\n| " + row + " | "));
        }
    }

    private static void examples(String[] lines) {
        must("they begin with a new object", lines[0].equals("PointShares x = new PointShares();"));
        PointShares x = new PointShares();
        for (int k = 1; k < lines.length; k++) {
            Matcher m = EXAMPLE.matcher(lines[k]);
            boolean isExample = m.matches();
            must("an example: " + lines[k], isExample);
            if (isExample) {
                long want = m.group(3).equals("NO") ? PointShares.NO : Long.parseLong(m.group(3));
                Check.due(m.group(1) + "(" + m.group(2) + ")", Calls.answer(x, m.group(1), arguments(m)), want);
            }
        }
    }

    /** Numbers, or signs between ' and ', as the call of this example wants them. */
    private static Object[] arguments(Matcher example) {
        Class<?>[] types = Calls.types(example.group(1));
        List<Object> arguments = new ArrayList<>();
        for (String told : example.group(2).isEmpty() ? new String[0] : example.group(2).split(", ")) {
            int number = told.startsWith("'") ? told.charAt(1) : Integer.parseInt(told);
            arguments.add(types[arguments.size()] == long.class ? (Object) (long) number : (Object) number);
        }
        return arguments.toArray();
    }
}
