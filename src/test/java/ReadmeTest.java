import java.nio.file.Files;
import java.nio.file.Path;
import java.util.ArrayList;
import java.util.List;
import java.util.regex.Matcher;
import java.util.regex.Pattern;

/** README.md's example answers as it says there, and its findings have the document's numbers. */
public final class ReadmeTest {
    private static final Edges E = new Edges("ReadmeTest");
    private static final Pattern CALL = Pattern.compile("(?m)^x\\.(\\w+\\(.*?\\)); +// (\\S+)");
    private static final Pattern HEX = Pattern.compile("0x[0-9a-f]+");
    private static final Pattern FINDING = Pattern.compile("(?m)^\\| ([A-Z]+) \\| (-\\d+) \\| (\\d) \\|");
    /** A call that answers each finding, in the order of status(). */
    private static final String[] ANSWERS = {"town(144)", "town(7)", "as(0, 1)", "undo()", "reread(1, 0)", "pair(0)",
        "sheet(0, 8, -1)"};
    private static final String FULL_LAND = Edges.join(Edges.times(16, "town(7)"),
            Edges.times(2, "letter(0, 0, 0, -1, 0)"), "lose(1, true)");

    public static void main(String[] args) throws Exception {
        String page = Files.readString(Path.of("README.md"));
        E.promise(1, "A new object");
        example(page);
        E.promise(54, "status");
        findings(page);
        E.end(1, 1);
    }

    private static void example(String page) {
        List<String> run = new ArrayList<>();
        Matcher call = CALL.matcher(page);
        while (call.find()) {
            String written = HEX.matcher(call.group(1)).replaceAll(hex -> Long.decode(hex.group()).toString());
            run.add(written + " = " + call.group(2));
        }
        E.is("README.md's example has 18 calls", run.size(), 18);
        E.edge("README.md's example", run.toArray(new String[0]));
    }

    private static void findings(String page) {
        Matcher row = FINDING.matcher(page);
        int rows = 0;
        while (row.find()) {
            String name = row.group(1);
            int which = Integer.parseInt(row.group(3));
            E.is("README.md's row of " + name + " stands in the order of status()", which, rows);
            if (which < ANSWERS.length) {
                E.is("README.md's number of " + name, Long.parseLong(row.group(2)), Due.BEYOND - which);
                E.edge("README.md's status() of " + name, FULL_LAND, ANSWERS[which] + " = " + name,
                        "status(" + which + ") = 1");
            }
            rows++;
        }
        E.is("README.md has a row for each finding", rows, ANSWERS.length);
    }
}
