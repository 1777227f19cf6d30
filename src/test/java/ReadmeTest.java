import java.io.IOException;
import java.nio.file.Files;
import java.nio.file.Path;
import java.util.regex.Matcher;
import java.util.regex.Pattern;

/** Each row of the README's example is played, and answers what stands behind it. */
final class ReadmeTest {
    private static final Pattern ROW = Pattern.compile("weights\\.(\\w+)\\(([^)]*)\\); +// (\"[^\"]*\"|-?\\d+).*");
    private static final int ROWS = 13;

    private ReadmeTest() {
    }

    public static void main(String[] args) throws IOException {
        Factorweights weights = new Factorweights();
        int rows = 0;
        for (String line : Files.readAllLines(Path.of("README.md"))) {
            Matcher row = ROW.matcher(line);
            if (row.matches()) {
                rows++;
                Check.due(line, String.valueOf(Face.play(weights, rowOf(row))), row.group(3).replace("\"", ""));
            }
        }
        Check.due("rows of the example", rows, ROWS);
        Check.end();
    }

    /** As Face reads it: arguments by spaces, 1 for true and 0 for false. */
    private static String rowOf(Matcher row) {
        String arguments = row.group(2).replace("true", "1").replace("false", "0").replace(",", "");
        return arguments.isEmpty() ? row.group(1) : row.group(1) + " " + arguments;
    }
}
