import java.lang.reflect.Constructor;
import java.lang.reflect.Field;
import java.lang.reflect.Member;
import java.lang.reflect.Method;
import java.lang.reflect.Modifier;
import java.util.NoSuchElementException;
import java.util.Set;
import java.util.TreeSet;
import java.util.regex.Matcher;
import java.util.regex.Pattern;

/** The public face, as the document tells it, and nothing beside it. */
final class FaceTest {
    private static final String[] FACE = {
        "int feed(int,int,int,int,int)", "boolean end(int)", "int next(int)", "int book()",
        "int fault()", "int many(int,int)", "int push(int,int,int,int)",
        "int squeeze(int,int,int,int,int)", "int blow(int,int,int,int,int)",
        "int again(int,int,int,int)", "int breaks(int,int)", "int breaksAt()",
        "int spans(int,int,int,int)", "int highest(int,int,int)",
        "int recorded(int,int,int,int,int,int)", "int pads(int,int,int,int,int)", "int padAt(int)",
        "int boxes(int,int,int)", "int boxSet()", "int stack(int,int,int,int)",
        "long journey(int,int)", "int proved(int,int)", "int needed(int,int)", "int count(int)",
        "FoamArms()", "NONE",
    };

    private static final Pattern MEMBER = Pattern.compile(" public ([^;{]*?)(?: throws \\w+)?;");

    public static void main(String[] args) throws Exception {
        Due due = new Due("FaceTest");
        Set<String> want = new TreeSet<>(Set.of(FACE));
        Set<String> got = new TreeSet<>();
        Set<String> publicNames = new TreeSet<>();
        Set<String> privateNames = new TreeSet<>();
        for (Method m : FoamArms.class.getDeclaredMethods()) {
            (isHidden(m) ? privateNames : publicNames).add(m.getName());
            if (!isHidden(m)) {
                got.add(m.getReturnType() + " " + m.getName() + types(m.getParameterTypes()));
            }
        }
        for (Constructor<?> c : FoamArms.class.getDeclaredConstructors()) {
            if (!isHidden(c)) {
                got.add("FoamArms" + types(c.getParameterTypes()));
            }
        }
        for (Field f : FoamArms.class.getDeclaredFields()) {
            if (!isHidden(f)) {
                got.add(f.getName());
            }
        }
        due.is("face " + got, got.equals(want), true);
        String document = Edge.document();
        if (document != null) {
            due.is("the document's face", toldFace(document).equals(want), true);
        }
        privateNames.retainAll(publicNames);
        due.is("private methods with a public one's name " + privateNames, privateNames.size(), 0);
        due.is("final", Modifier.isFinal(FoamArms.class.getModifiers()), true);
        due.is("NONE", FoamArms.NONE, -1);
        Class<?>[] thrown = FoamArms.class.getMethod("journey", int.class, int.class)
                .getExceptionTypes();
        due.is("journey throws", thrown.length == 1 && thrown[0] == NoSuchElementException.class,
                true);
        due.is("classes", FoamArms.class.getDeclaredClasses().length <= 11, true);
        for (Class<?> c : FoamArms.class.getDeclaredClasses()) {
            due.is(c + " is static", Modifier.isStatic(c.getModifiers()), true);
            due.is(c + " is not public", Modifier.isPublic(c.getModifiers()), false);
        }
        due.close();
    }

    /** The face that the document writes out, in FACE's form. */
    private static Set<String> toldFace(String document) {
        Set<String> told = new TreeSet<>();
        Matcher found = MEMBER.matcher(document.replaceFirst(".*public final class FoamArms \\{", ""));
        while (found.find()) {
            String member = found.group(1).replaceAll("static final int | = -1", "");
            told.add(member.replaceAll("(int|long|boolean) \\w+([,)])", "$1$2").replace(", ", ","));
        }
        return told;
    }

    private static boolean isHidden(Member m) {
        return Modifier.isPrivate(m.getModifiers());
    }

    private static String types(Class<?>[] types) {
        StringBuilder text = new StringBuilder("(");
        for (Class<?> type : types) {
            text.append(text.length() > 1 ? "," : "").append(type);
        }
        return text.append(")").toString();
    }
}
