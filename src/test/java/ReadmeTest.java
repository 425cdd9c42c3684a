import java.io.IOException;
import java.lang.reflect.Method;
import java.lang.reflect.Modifier;
import java.nio.file.DirectoryStream;
import java.nio.file.Files;
import java.nio.file.Path;
import java.util.Map;
import java.util.Set;
import java.util.TreeMap;
import java.util.TreeSet;
import java.util.regex.Matcher;
import java.util.regex.Pattern;

/** README.md: each example answers what stands behind it, and nothing is missing on the page. Runs in the project's root. */
public final class ReadmeTest {
    private static final Pattern MAKING = Pattern.compile("LineGolomb (\\w+) = new LineGolomb\\((-?\\d+), (-?\\d+), (-?\\d+)\\);");
    private static final Pattern CALLING = Pattern.compile("(\\w+)\\.((\\w+)\\([^()]*\\));(?:\\s+// (.*))?");
    // What is due comes first in the remark; the rest of it explains.
    private static final Pattern DUE = Pattern.compile("(-?\\d+|true|false|WAITS|NO_CODE|NO_ERROR|throws (\\w+))\\b.*");

    private static final Pattern WRITTEN = Pattern.compile("\\d+ bits, ([01]+): .*");

    private final Map<String, LineGolomb> made = new TreeMap<>();
    private final Set<String> shown = new TreeSet<>();

    public static void main(String[] args) throws IOException {
        String page = Files.readString(Path.of("README.md"));
        ReadmeTest test = new ReadmeTest();
        boolean example = false;
        for (String line : page.split("\n")) {
            if (line.startsWith("```")) {
                example = line.equals("```java");
            } else if (example) {
                test.example(line);
            }
        }
        test.eachCallIsShown(page);
        eachTestIsNamed(page);
        Check.end("ReadmeTest");
    }

    private void example(String line) {
        Matcher making = MAKING.matcher(line);
        Matcher calling = CALLING.matcher(line);
        if (making.matches()) {
            made.put(making.group(1), new LineGolomb(Integer.parseInt(making.group(2)),
                Integer.parseInt(making.group(3)), Integer.parseInt(making.group(4))));
        } else if (calling.matches() && made.containsKey(calling.group(1))) {
            shown.add(calling.group(3));
            LineGolomb x = made.get(calling.group(1));
            Check.same("README.md: " + line, Script.answer(x, calling.group(2)).toString(), dueIn(calling.group(4)));
            lastBits(line, x, calling.group(4));
        } else {
            Check.same("README.md: " + line, "not understood", "an object is made, or a call on it");
        }
    }

    private static void lastBits(String line, LineGolomb x, String remark) {
        Matcher written = WRITTEN.matcher(remark == null ? "" : remark);
        if (written.matches()) {
            String bits = written.group(1);
            Check.same("README.md: bits of " + line, Check.written(x, Math.max(0, x.size() - bits.length())), bits);
        }
    }

    private static String dueIn(String remark) {
        if (remark == null) {
            return "";
        }
        Matcher due = DUE.matcher(remark);
        if (!due.matches()) {
            return "what the remark does not tell";
        }
        return switch (due.group(1)) {
            case "WAITS" -> "" + LineGolomb.WAITS;
            case "NO_CODE" -> "" + LineGolomb.NO_CODE;
            case "NO_ERROR" -> "" + LineGolomb.NO_ERROR;
            default -> due.group(2) == null ? due.group(1) : due.group(2);
        };
    }

    private void eachCallIsShown(String page) {
        for (Method m : LineGolomb.class.getDeclaredMethods()) {
            if (Modifier.isPublic(m.getModifiers())) {
                Check.same("README.md shows " + m.getName(), shown.contains(m.getName()), true);
                Check.same("README.md tells of " + m.getName(), page.contains("| `" + m.getName() + "("), true);
            }
        }
    }

    private static void eachTestIsNamed(String page) throws IOException {
        try (DirectoryStream<Path> tests = Files.newDirectoryStream(Path.of("src/test/java"), "*Test.java")) {
            for (Path test : tests) {
                String name = test.getFileName().toString().replace(".java", "");
                Check.same("README.md names " + name, page.contains("| `" + name + "` |"), true);
            }
        }
    }
}
