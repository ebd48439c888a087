import java.nio.file.Files;
import java.nio.file.Path;
import java.util.regex.Matcher;
import java.util.regex.Pattern;

/** What of LANGUAGE.md can be seen in the text of the class. */
final class RulesTest {
    private static final String[] NOWHERE = {"->", "::", "\\bfinally\\b", "\\bsynchronized\\b",
        "\\bassert\\b", "\\bcatch\\b", "\\btry\\b", "Exact\\(", "\\bprotected\\b", "\\bpackage\\b",
        "\\bMath\\.random", "\\bSystem\\.(?!arraycopy)", "\\bstatic \\{", "\\bThread\\b",
        "\\bhashCode\\b", "\\bequals\\b", "\\btoString\\b", "\\bdouble\\b", "\\bfloat\\b",
        "\" \\+|\\+ \"", "\\bdo\\b"};

    public static void main(String[] args) throws Exception {
        Due due = new Due("RulesTest");
        String text = Files.readString(Path.of("src/main/java/FoamArms.java"));
        String code = text.replaceAll("(?s)/\\*.*?\\*/", "").replaceAll("//[^\n]*", "");
        for (String rule : NOWHERE) {
            due.is("found " + rule, Pattern.compile(rule).matcher(code).find(), false);
        }
        due.is("signs above 127", text.chars().anyMatch(c -> c > 127), false);
        due.is("imports", many(code, "\\bimport\\b"), 1);
        due.is("the import", code.contains("import java.util.NoSuchElementException;"), true);
        due.is("throws", many(code, "\\bthrow new \\w+\\("), 1);
        due.is("throw", many(code, "\\bthrow\\b"), 1);
        due.is("public: the class, NONE, the constructor, 24 methods", many(code, "\\bpublic\\b"), 27);
        due.is("classes", many(code, "\\bclass\\b"), 12);
        due.is("static fields are final constants", many(code, "\\bstatic (?!final )[\\w\\[\\]]+ \\w+ ?[=;]"), 0);
        methods(due, code);
        due.close();
    }

    private static int many(String code, String pattern) {
        return (int) Pattern.compile(pattern).matcher(code).results().count();
    }

    /** At most seven parameters, at most sixty lines. */
    private static void methods(Due due, String code) {
        Matcher m = Pattern.compile("(?m)^( +)(?:(?:public|private|static|final) )*[\\w\\[\\]]+ "
                + "(?:(\\w+)\\(([^)]*)\\))[\\w ]*\\{\n").matcher(code);
        int found = 0;
        while (m.find()) {
            found++;
            String close = "\n" + m.group(1) + "}";
            String body = code.substring(m.end(), code.indexOf(close, m.end() - 1));
            due.is(m.group(2) + " is short", body.split("\n").length <= 60, true);
            due.is(m.group(2) + " has few parameters", m.group(3).split(",").length <= 7, true);
        }
        due.is("methods are found", found > 90, true);
    }
}
