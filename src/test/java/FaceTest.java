import java.io.IOException;
import java.lang.reflect.Constructor;
import java.lang.reflect.Field;
import java.lang.reflect.Method;
import java.lang.reflect.Modifier;
import java.nio.file.Files;
import java.nio.file.Path;
import java.util.Arrays;
import java.util.HashSet;
import java.util.Set;
import java.util.TreeSet;
import java.util.regex.Matcher;
import java.util.regex.Pattern;

/** The public face of the document, and the rules of LANGUAGE.md that a look at the class and its text can tell. */
public final class FaceTest {
    private static final Due DUE = new Due();
    private static final String FACE = "clear/0 count/1 event/3 except/2 fault/2 grid/1 height/2 interval/3 judge/0 "
            + "key/1 moments/0 note/4 range/3 repeat/2 rest/2 rule/2 style/1 take/1 time/1";
    private static final String[] FORBIDDEN = {"\\bthrow\\b", "\\btry\\b", "\\bcatch\\b", "\\bsynchronized\\b",
        "\\bassert\\b", "->", "::", "Exact\\b", "^package\\b", "\\bstatic \\{", "\\bObject\\b"};

    private FaceTest() {
    }

    public static void main(String[] args) throws IOException {
        methods();
        constants();
        fields();
        text(Files.readString(Path.of("src/main/java/LeadFaults.java")));
        DUE.end();
    }

    private static void methods() {
        TreeSet<String> face = new TreeSet<>();
        Set<String> publicNames = new HashSet<>();
        for (Method m : LeadFaults.class.getDeclaredMethods()) {
            if (!Modifier.isPrivate(m.getModifiers())) {
                face.add(m.getName() + "/" + m.getParameterCount());
                publicNames.add(m.getName());
                DUE.same(m + " is public, not static, and of ints", isOfInts(m) ? 1 : 0, 1);
            }
        }
        DUE.same("methods", String.join(" ", face), FACE);
        for (Class<?> inside : LeadFaults.class.getDeclaredClasses()) {
            DUE.same(inside + " is static", Modifier.isStatic(inside.getModifiers()) ? 1 : 0, 1);
            for (Method m : inside.getDeclaredMethods()) {
                DUE.same(m + " has a name of its own", publicNames.contains(m.getName()) ? 1 : 0, 0);
            }
        }
        for (Method m : LeadFaults.class.getDeclaredMethods()) {
            boolean isHidden = Modifier.isPrivate(m.getModifiers());
            DUE.same(m + " has a name of its own", isHidden && publicNames.contains(m.getName()) ? 1 : 0, 0);
        }
        Constructor<?>[] constructors = LeadFaults.class.getDeclaredConstructors();
        DUE.same("constructors", Arrays.toString(constructors), "[public LeadFaults(int)]");
        DUE.same("the class", Modifier.toString(LeadFaults.class.getModifiers()), "public final");
    }

    private static boolean isOfInts(Method m) {
        return m.getModifiers() == Modifier.PUBLIC && m.getReturnType() == int.class
                && Arrays.stream(m.getParameterTypes()).allMatch(type -> type == int.class);
    }

    private static void constants() {
        DUE.same("NONE", LeadFaults.NONE, -1);
        DUE.same("BAD", LeadFaults.BAD, -2);
        DUE.same("FULL", LeadFaults.FULL, -3);
        DUE.same("LATE", LeadFaults.LATE, -4);
        DUE.same("SILENT", LeadFaults.SILENT, -100);
    }

    private static void fields() {
        TreeSet<String> seen = new TreeSet<>();
        for (Field f : LeadFaults.class.getDeclaredFields()) {
            if (!Modifier.isPrivate(f.getModifiers())) {
                seen.add(Modifier.toString(f.getModifiers()) + " " + f.getName());
            }
            if (Modifier.isStatic(f.getModifiers())) {
                DUE.same(f + " is final", Modifier.isFinal(f.getModifiers()) ? 1 : 0, 1);
            }
        }
        DUE.same("fields", seen.toString(), "[public static final BAD, public static final FULL, "
                + "public static final LATE, public static final NONE, public static final SILENT]");
    }

    private static void text(String source) {
        String code = source.replaceAll("(?s)/\\*.*?\\*/", "").replaceAll("//[^\n]*", "");
        for (String word : FORBIDDEN) {
            Matcher matcher = Pattern.compile(word, Pattern.MULTILINE).matcher(code);
            DUE.same("the text has " + word, matcher.find() ? 1 : 0, 0);
        }
    }
}
