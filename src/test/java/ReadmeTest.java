import java.nio.file.Files;
import java.nio.file.Path;
import java.util.List;
import java.util.regex.Matcher;
import java.util.regex.Pattern;

/** README.md: its example answers what it says, line by line, and its table has the values of the constants. */
public final class ReadmeTest {
    private static final Due due = new Due("ReadmeTest");
    private static final Pattern ROW_OF_TABLE = Pattern.compile("\\| `(\\w+)`(?: - (\\d))? \\| (-\\d+) \\|.*");

    private static long bits(double d) {
        return Double.doubleToRawLongBits(d);
    }

    /** The same calls as in README.md; what stands behind // there is what is due here. */
    private static void example() {
        ReservoirWall wall = new ReservoirWall();
        int row = wall.row(3, 4);
        due.is("row", row, 0);
        due.is("putReal", wall.putReal(row, 0, bits(2.5)), 1);
        due.is("get", wall.get(row, 0), 2);
        due.real("getReal", wall.getReal(row, 0), 2.5);
        due.is("refused", wall.row(8, 4), ReservoirWall.OUTSIDE);
        due.is("gone", wall.put(row, 9, 1), ReservoirWall.FAILED - 2);
        due.is("why", wall.raised(0), 2);

        due.is("PUT", wall.step(0, 0, row, 1, 7, 0), 1);
        due.is("FAIL", wall.step(0, 2, 8, 55, 0, 0), 2);
        due.is("act", wall.act(0), ReservoirWall.FAILED - 8);
        due.is("word", wall.raised(1), 55);
        due.is("given back", wall.get(row, 1), 0);

        due.is("rule", wall.rule(0, 0, 365, bits(0.0), bits(40.0), bits(500.0)), 0);
        due.is("reading", wall.reading(2, bits(9.0)), 1);
        due.is("run", wall.run(bits(0.0), bits(5.0)), 1);
        due.real("LEVEL TOLD", wall.lake(2), 9.0);
        due.real("opening", wall.lake(10), 0.125);
    }

    /** The calls of the example in README.md, in its order, so that it and example() stay the same. */
    private static void exampleIsThere(String text) {
        String[] calls = {"row(3, 4)", "putReal(row, 0, 2.5)", "get(row, 0)", "getReal(row, 0)", "row(8, 4)", "put(row, 9, 1)",
            "raised(0)", "step(0, 0, row, 1, 7, 0)", "step(0, 2, 8, 55, 0, 0)", "act(0)", "raised(1)", "get(row, 1)",
            "rule(0, 0, 365, 0.0, 40.0, 500.0)", "reading(2, 9.0)", "run(0.0, 5.0)", "lake(2)", "lake(10)"};
        String code = text.substring(text.indexOf("```java"), text.indexOf("```\n", text.indexOf("```java")));
        code = code.replaceAll("//.*", "").replaceAll("Double\\.doubleToRawLongBits\\(([0-9.]+)\\)", "$1").replaceAll("\\s+", " ");
        Matcher found = Pattern.compile("wall\\.(\\w+\\([^()]*\\))").matcher(code);
        for (String call : calls) {
            due.is("README.md has " + call, found.find() && found.group(1).equals(call) ? 1 : 0, 1);
        }
        due.is("README.md has no other call", found.find() ? 1 : 0, 0);
    }

    private static void table(List<String> lines) throws Exception {
        int rows = 0;
        for (String line : lines) {
            Matcher row = ROW_OF_TABLE.matcher(line);
            if (row.matches()) {
                rows++;
                int less = row.group(2) == null ? 0 : Integer.parseInt(row.group(2));
                int value = ReservoirWall.class.getField(row.group(1)).getInt(null) - less;
                due.is("README.md: " + line, Long.parseLong(row.group(3)), value);
            }
        }
        due.is("rows of the table", rows, 5 + 8);
    }

    public static void main(String[] args) throws Exception {
        Path readme = Path.of("README.md");
        example();
        exampleIsThere(Files.readString(readme));
        table(Files.readAllLines(readme));
        due.end();
    }
}
