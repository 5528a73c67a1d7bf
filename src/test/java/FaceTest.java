import java.io.IOException;
import java.lang.reflect.Field;
import java.lang.reflect.Method;
import java.lang.reflect.Modifier;
import java.nio.file.Files;
import java.nio.file.Path;
import java.util.Arrays;
import java.util.HashSet;
import java.util.Set;
import java.util.TreeSet;
import java.util.regex.Matcher;
import java.util.regex.Pattern;

/** The public face, and what of LANGUAGE.md can be seen: from the class by reflection, from its source by words. */
public final class FaceTest {
    private static final String SOURCE = "src/main/java/SeaCells.java";
    private static final String[] FACE = {"row int int int", "lay int int int int", "tear int int",
        "copy int int int int int int", "mean int int", "text int int int", "put int int int int", "burn int int",
        "fault int int", "board int int int int int", "drop int int", "bottom int int int int",
        "water int int int int", "spill int int int int int", "cell int int int int", "flow int int int",
        "gate int int int boolean", "law int int int int", "wind int int int int", "river int int int int",
        "tide int int int int", "step int int int", "told int int int", "mark int int int", "keep int int int",
        "mirror int int", "boat int int int int int", "where int int", "gauge int int int int",
        "reading int int int", "lose int int int", "tone int int int", "theTone int int", "part int boolean",
        "nest int int int int int int int", "up int int", "down int int", "fit int int int int",
        "ends int int int int int", "play int int int", "world int int int", "forget int", "alarm int int int int",
        "post int int int", "gates int int int int", "asked int", "strength long", "upper long", "lower long",
        "count int int", "finding int", "findings int int", "digest long"};

    public static void main(String[] args) throws IOException {
        Due.is(Modifier.isFinal(SeaCells.class.getModifiers()) ? 1 : 0, 1);
        Due.is(SeaCells.class.getConstructors().length, 1);
        Due.is(SeaCells.class.getDeclaredConstructors().length, 1);
        methods();
        fields();
        classes();
        words(Files.readString(Path.of(SOURCE)));
        Due.end();
    }

    private static String told(Method m) {
        StringBuilder line = new StringBuilder(m.getName()).append(' ').append(m.getReturnType().getName());
        for (Class<?> type : m.getParameterTypes()) line.append(' ').append(type.getName());
        return line.toString();
    }

    private static void methods() {
        Set<String> open = new TreeSet<>();
        Set<String> names = new HashSet<>();
        for (String line : FACE) names.add(line.substring(0, line.indexOf(' ')));
        for (Method m : SeaCells.class.getDeclaredMethods()) {
            if (!Modifier.isPrivate(m.getModifiers())) open.add(told(m));
            else if (names.contains(m.getName())) wrong("a private method bears the name " + m.getName());
        }
        if (!open.equals(new TreeSet<>(Arrays.asList(FACE)))) wrong("the methods are not the face: " + open);
    }

    private static void fields() {
        Set<String> constants = new TreeSet<>(Arrays.asList("BAD", "FULL", "FINDING", "STATE", "NONE"));
        Set<String> open = new TreeSet<>();
        for (Field f : SeaCells.class.getDeclaredFields()) {
            boolean isPrivate = Modifier.isPrivate(f.getModifiers());
            boolean isStatic = Modifier.isStatic(f.getModifiers());
            if (!isPrivate) open.add(f.getName());
            if (isStatic && !Modifier.isFinal(f.getModifiers())) wrong("static and not final: " + f.getName());
            if (isStatic && f.getType() != int.class) wrong("static and no int: " + f.getName());
        }
        if (!open.equals(constants)) wrong("the open fields are not the face: " + open);
    }

    private static void classes() {
        Class<?>[] inside = SeaCells.class.getDeclaredClasses();
        if (inside.length > 12) wrong("more than twelve classes");
        Set<String> names = new HashSet<>();
        for (String line : FACE) names.add(line.substring(0, line.indexOf(' ')));
        for (Class<?> one : inside) {
            if (!Modifier.isStatic(one.getModifiers())) wrong("not static: " + one.getName());
            int fields = 0;
            for (Field f : one.getDeclaredFields()) fields += Modifier.isStatic(f.getModifiers()) ? 0 : 1;
            if (fields > 20) wrong("more than twenty fields: " + one.getName());
            for (Method m : one.getDeclaredMethods()) {
                if (names.contains(m.getName())) wrong(one.getName() + " has the face's name " + m.getName());
            }
        }
    }

    private static void words(String source) {
        String code = source.replaceAll("(?s)/\\*.*?\\*/", "").replaceAll("//[^\n]*", "");
        String[] banned = {"\\bthrow\\b", "\\btry\\b", "\\bcatch\\b", "\\bsynchronized\\b", "\\bassert\\b", "->", "::",
            "\\bpackage\\b", "\\bimport\\b", "\\bObject\\b", "Exact\\b", "\\bequals\\b", "\\bhashCode\\b",
            "\\btoString\\b", "\\bSystem\\.(?!arraycopy\\b)", "\\bnull\\b", "[^\\x00-\\x7f]", "\\bThread\\b",
            "\\bRandom\\b"};
        for (String word : banned) {
            Matcher m = Pattern.compile(word).matcher(code);
            if (m.find()) wrong("the source has " + m.group());
        }
        // rows are made with their objects alone, so that no call makes one
        int made = 0;
        for (String line : code.split("\n")) {
            boolean inField = line.contains("private ") && line.contains("= new ");
            boolean inConstructor = line.contains("for (int ") && line.contains("] = new ")
                    || line.trim().equals("places = new int[count][most];")
                    || line.trim().equals("sizes = new int[count];");
            if (line.contains("new ") && !inField && !inConstructor) made++;
        }
        Due.is(made, 0);
    }

    private static void wrong(String what) {
        System.out.println(what);
        Due.is(0, 1);
    }
}
