import java.lang.reflect.Method;
import java.lang.reflect.Modifier;
import java.nio.file.Files;
import java.nio.file.Path;
import java.util.regex.Matcher;
import java.util.regex.Pattern;

/** The example in README.md answers as its notes say, and each call of the face is told of there. */
public final class ReadmeTest {
    private static final Pattern CALL = Pattern.compile("x\\.(\\w+)\\(([^)]*)\\);");
    private static final Pattern NOTE = Pattern.compile("// (-?\\d+|[A-Z]{2,}): ");

    public static void main(String[] args) throws Exception {
        Checks checks = new Checks();
        String readme = Files.readString(Path.of("README.md"));
        for (Method method : LieBridges.class.getDeclaredMethods()) {
            if (Modifier.isPublic(method.getModifiers())) {
                checks.due("`" + method.getName() + "` is told of",
                    readme.contains("`" + method.getName() + "`") ? 1 : 0, 1);
            }
        }
        int start = readme.indexOf("```java\n");
        LieBridges x = new LieBridges();
        int noted = 0;
        for (String line : readme.substring(start, readme.indexOf("```\n", start)).split("\n")) {
            Matcher calls = CALL.matcher(line);
            long answer = 0;
            while (calls.find()) {
                answer = answer(x, calls.group(1), calls.group(2).split(", *"));
            }
            Matcher note = NOTE.matcher(line);
            if (note.find()) {
                checks.due(line, answer, meant(note.group(1)));
                noted++;
            }
        }
        checks.due("answers are noted", noted > 0 ? 1 : 0, 1);
        checks.end("ReadmeTest");
    }

    private static long answer(LieBridges x, String name, String[] words) throws Exception {
        for (Method method : LieBridges.class.getDeclaredMethods()) {
            if (method.getName().equals(name)) {
                Object[] arguments = new Object[method.getParameterCount()];
                for (int i = 0; i < arguments.length; i++) {
                    arguments[i] = argument(words[i]);
                }
                return ((Number) method.invoke(x, arguments)).longValue();
            }
        }
        throw new IllegalArgumentException(name);
    }

    private static Object argument(String word) {
        if (word.equals("true") || word.equals("false")) {
            return word.equals("true");
        }
        return word.startsWith("'") ? word.charAt(1) : Integer.parseInt(word);
    }

    private static long meant(String word) throws Exception {
        boolean named = Character.isLetter(word.charAt(0));
        return named ? LieBridges.class.getField(word).getInt(null) : Integer.parseInt(word);
    }
}
