import java.io.IOException;
import java.lang.reflect.InvocationTargetException;
import java.lang.reflect.Method;
import java.lang.reflect.Modifier;
import java.nio.file.Files;
import java.nio.file.Path;
import java.util.regex.Matcher;
import java.util.regex.Pattern;

/** Each call of the example in README.md answers what is written behind it, and README.md names every call. */
public final class ReadmeTest {
    private static final Check CHECK = new Check("ReadmeTest");
    private static final Pattern TYPED = Pattern.compile("for \\(char sign : \"([^\"]+)\"\\.toCharArray\\(\\)\\) knit\\.type\\(sign\\);");
    private static final Pattern CALL = Pattern.compile("knit\\.(\\w+)\\(([^)]*)\\); +// ('.'|[-\\w]+).*");

    public static void main(String[] args) throws IOException, IllegalAccessException {
        String text = Files.readString(Path.of("README.md"));
        for (Method method : Stitchwright.class.getDeclaredMethods()) {
            boolean isPrivate = Modifier.isPrivate(method.getModifiers());
            CHECK.eq(method.getName() + " is named", isPrivate || text.contains("`" + method.getName() + "`"), true);
        }
        int calls = 0;
        Stitchwright knit = new Stitchwright();
        for (String line : text.substring(text.indexOf("```java\n") + 8, text.indexOf("```\n")).split("\n+")) {
            Matcher typed = TYPED.matcher(line);
            Matcher call = CALL.matcher(line);
            if (typed.matches()) {
                Told.buffer(knit, typed.group(1));
            } else if (call.matches()) {
                CHECK.eq(line, answer(knit, call.group(1), call.group(2)), call.group(3).replace("'", ""));
                calls++;
            } else {
                CHECK.eq("a line that is no call", line, "Stitchwright knit = new Stitchwright();");
            }
        }
        CHECK.eq("calls are found", calls > 10, true);
        CHECK.end();
    }

    /** What a call answers, or the name of its exception, as it would be written. */
    private static String answer(Stitchwright knit, String name, String written) throws IllegalAccessException {
        String[] words = written.isEmpty() ? new String[0] : written.split(", ");
        for (Method method : Stitchwright.class.getDeclaredMethods()) {
            if (method.getName().equals(name) && method.getParameterCount() == words.length) {
                Object[] values = new Object[words.length];
                for (int i = 0; i < words.length; i++) {
                    values[i] = valueOf(words[i]);
                }
                try {
                    return String.valueOf(method.invoke(knit, values));
                } catch (InvocationTargetException thrown) {
                    return thrown.getCause().getClass().getSimpleName();
                }
            }
        }
        return "no such call";
    }

    private static Object valueOf(String word) {
        if (word.charAt(0) == '\'') {
            return word.charAt(1);
        }
        if (word.equals("true") || word.equals("false")) {
            return Boolean.valueOf(word);
        }
        return Integer.valueOf(word);
    }
}
