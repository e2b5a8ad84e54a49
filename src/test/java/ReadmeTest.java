import java.io.IOException;
import java.lang.reflect.Method;
import java.lang.reflect.Modifier;
import java.nio.file.Files;
import java.nio.file.Path;
import java.util.Arrays;
import java.util.TreeSet;
import java.util.regex.Matcher;
import java.util.regex.Pattern;

/** README.md's examples, line by line: each call's answer stands first behind '//', as a number or by its name. */
public final class ReadmeTest {
    private static final Due DUE = new Due();
    private static final Pattern MADE = Pattern.compile("LeadFaults lead = new LeadFaults\\((\\d+)\\);.*");
    private static final Pattern CALL = Pattern.compile("lead\\.(\\w+)\\(([-\\d, ]*)\\); +// (-?\\d+|[A-Z]+)\\b.*");

    private final TreeSet<String> shown = new TreeSet<>();
    private LeadFaults lead = new LeadFaults(2);

    private ReadmeTest() {
    }

    public static void main(String[] args) throws IOException, ReflectiveOperationException {
        ReadmeTest test = new ReadmeTest();
        boolean isExample = false;
        for (String line : Files.readAllLines(Path.of("README.md"))) {
            if (line.startsWith("```")) {
                isExample = line.equals("```java");
            } else if (isExample) {
                test.follow(line);
            }
        }
        test.showsEveryCall();
        DUE.end();
    }

    private void follow(String line) throws ReflectiveOperationException {
        Matcher made = MADE.matcher(line);
        if (made.matches()) {
            lead = new LeadFaults(Integer.parseInt(made.group(1)));
            return;
        }
        Matcher call = CALL.matcher(line);
        DUE.same(line + " is a call with its answer", call.matches() ? 1 : 0, 1);
        if (call.matches()) {
            shown.add(call.group(1));
            DUE.same(line, answer(call.group(1), call.group(2)), number(call.group(3)));
        }
    }

    private int answer(String name, String numbers) throws ReflectiveOperationException {
        String[] words = numbers.isEmpty() ? new String[0] : numbers.split(", *");
        Class<?>[] types = new Class<?>[words.length];
        Arrays.fill(types, int.class);
        Object[] values = Arrays.stream(words).map(Integer::valueOf).toArray();
        return (Integer) LeadFaults.class.getMethod(name, types).invoke(lead, values);
    }

    private static int number(String answer) throws ReflectiveOperationException {
        boolean isName = Character.isLetter(answer.charAt(0));
        return isName ? LeadFaults.class.getField(answer).getInt(null) : Integer.parseInt(answer);
    }

    private void showsEveryCall() {
        TreeSet<String> face = new TreeSet<>();
        for (Method method : LeadFaults.class.getDeclaredMethods()) {
            if (Modifier.isPublic(method.getModifiers())) {
                face.add(method.getName());
            }
        }
        DUE.same("the calls that are shown", shown.toString(), face.toString());
    }
}
