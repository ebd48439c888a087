import java.io.ByteArrayOutputStream;
import java.io.IOException;
import java.io.PrintStream;
import java.nio.file.Files;
import java.nio.file.Path;
import java.util.regex.Matcher;
import java.util.regex.Pattern;

/** README.md: its example is Example.java, which prints what its comments say; each call is named. */
final class ReadmeTest {
    private static final Pattern PRINTED = Pattern.compile("println\\(.*\\); +// (-?\\d+):");

    public static void main(String[] args) throws IOException {
        Due due = new Due("ReadmeTest");
        String readme = Files.readString(Path.of("README.md"));
        String example = Files.readString(Path.of("src/test/java/Example.java"));
        due.is("the example is README's", readme.contains("```java\n" + example + "```"), true);
        String[] printed = printedByExample();
        Matcher line = PRINTED.matcher(example);
        int lines = 0;
        while (line.find()) {
            long got = lines < printed.length ? Long.parseLong(printed[lines]) : Due.THROWN;
            due.is(line.group(), got, Long.parseLong(line.group(1)));
            lines++;
        }
        due.is("printed lines", printed.length, lines);
        for (java.lang.reflect.Method call : FoamArms.class.getMethods()) {
            if (call.getDeclaringClass() == FoamArms.class) {
                due.is("README tells " + call.getName(),
                        readme.contains("| `" + call.getName() + "("), true);
            }
        }
        due.close();
    }

    private static String[] printedByExample() {
        PrintStream before = System.out;
        ByteArrayOutputStream bytes = new ByteArrayOutputStream();
        System.setOut(new PrintStream(bytes, true));
        try {
            Example.main(new String[0]);
        } finally {
            System.setOut(before);
        }
        return bytes.toString().trim().split("\\s+");
    }
}
