import java.io.IOException;
import java.lang.reflect.InvocationTargetException;
import java.lang.reflect.Method;
import java.nio.file.Files;
import java.nio.file.Path;
import java.util.HashMap;
import java.util.Map;
import java.util.regex.Matcher;
import java.util.regex.Pattern;

/** The calls that README.md shows, one behind the other on one object: each answers what is told behind its line. */
public final class ReadmeTest {
    private static final Pattern CALL = Pattern.compile("sea\\.(\\w+)\\((.*)\\); *// (-?\\d+)(:.*)?");
    private static final Map<String, Method> METHODS = new HashMap<>();

    public static void main(String[] args) throws IOException, ReflectiveOperationException {
        for (Method m : SeaCells.class.getMethods()) METHODS.put(m.getName(), m);
        SeaCells sea = new SeaCells();
        boolean isCode = false;
        for (String line : Files.readAllLines(Path.of("README.md"))) {
            if (line.startsWith("```")) isCode = line.equals("```java");
            else if (isCode && !line.equals("SeaCells sea = new SeaCells();")) answers(sea, line);
        }
        Due.end();
    }

    private static void answers(SeaCells sea, String line) throws IllegalAccessException, InvocationTargetException {
        Due.says("README.md: " + line);
        Matcher call = CALL.matcher(line);
        boolean isCall = call.matches() && METHODS.containsKey(call.group(1));
        Due.is(isCall ? 1 : 0, 1);
        if (!isCall) return;
        String[] numbers = call.group(2).isEmpty() ? new String[0] : call.group(2).split(", ");
        Object[] with = new Object[numbers.length];
        for (int i = 0; i < with.length; i++) with[i] = number(numbers[i]);
        Number answer = (Number) METHODS.get(call.group(1)).invoke(sea, with);
        Due.is(answer.longValue(), Long.parseLong(call.group(3)));
    }

    private static int number(String word) {
        return word.startsWith("'") ? word.charAt(1) : Integer.parseInt(word);
    }
}
