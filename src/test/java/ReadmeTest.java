import java.lang.reflect.Method;
import java.lang.reflect.Modifier;
import java.nio.file.Files;
import java.nio.file.Path;
import java.util.HashMap;
import java.util.Map;
import java.util.TreeSet;
import java.util.regex.Matcher;
import java.util.regex.Pattern;

/**
 * Makes the objects and the calls of README.md's examples, compares each answer with the one that
 * stands behind its call there, and asks that no method of the face is without an example.
 */
public final class ReadmeTest {
    private static final Pattern MAKING =
            Pattern.compile("CharacterSets (\\w+) = new CharacterSets\\((-?\\d+)\\);.*");
    private static final Pattern CALL =
            Pattern.compile("(\\w+)\\.(\\w+)\\(([^;]*)\\); *// (-?\\w+)(:.*)?");

    private static final Map<String, CharacterSets> OBJECTS = new HashMap<>();
    private static final TreeSet<String> CALLED = new TreeSet<>();
    private static int wrong = 0;

    private static void fault(String text) {
        wrong++;
        System.out.println("README.md: " + text);
    }

    public static void main(String[] args) throws Exception {
        boolean inExamples = false;
        for (String line : Files.readAllLines(Path.of("README.md"))) {
            if (line.startsWith("```")) {
                inExamples = line.equals("```java");
            } else if (inExamples && !line.isEmpty()) {
                follow(line);
            }
        }
        TreeSet<String> face = new TreeSet<>();
        for (Method method : CharacterSets.class.getDeclaredMethods()) {
            if (Modifier.isPublic(method.getModifiers())) {
                face.add(method.getName());
            }
        }
        if (!CALLED.equals(face)) {
            fault("the examples call " + CALLED + ", the face has " + face);
        }
        System.out.println(wrong == 0 ? "all examples answer as told" : wrong + " faults");
        if (wrong != 0) {
            System.exit(1);
        }
    }

    private static void follow(String line) throws Exception {
        Matcher making = MAKING.matcher(line);
        if (making.matches()) {
            OBJECTS.put(making.group(1), new CharacterSets(Integer.parseInt(making.group(2))));
            return;
        }
        Matcher call = CALL.matcher(line);
        if (!call.matches() || !OBJECTS.containsKey(call.group(1))) {
            fault("cannot be followed: " + line);
            return;
        }
        int got = answerOf(OBJECTS.get(call.group(1)), call.group(2), call.group(3).split(", "));
        if (got != numberOf(call.group(4))) {
            fault("answered " + got + ": " + line);
        }
        CALLED.add(call.group(2));
    }

    private static int answerOf(CharacterSets object, String name, String[] words)
            throws Exception {
        Class<?>[] types = new Class<?>[words.length];
        Object[] values = new Object[words.length];
        for (int i = 0; i < words.length; i++) {
            boolean isFlag = words[i].equals("true") || words[i].equals("false");
            types[i] = isFlag ? boolean.class : int.class;
            values[i] = isFlag ? (Object) Boolean.valueOf(words[i]) : (Object) numberOf(words[i]);
        }
        return (Integer) CharacterSets.class.getMethod(name, types).invoke(object, values);
    }

    private static Integer numberOf(String word) {
        if (word.equals("REFUSED")) {
            return CharacterSets.REFUSED;
        }
        return word.charAt(0) == '\'' ? Integer.valueOf(word.charAt(1)) : Integer.decode(word);
    }
}
