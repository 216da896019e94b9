import java.io.IOException;
import java.lang.reflect.Field;
import java.lang.reflect.Method;
import java.lang.reflect.Modifier;
import java.nio.charset.StandardCharsets;
import java.nio.file.Files;
import java.nio.file.Path;
import java.util.ArrayList;
import java.util.HashSet;
import java.util.List;
import java.util.Set;
import java.util.regex.Matcher;
import java.util.regex.Pattern;

/** The rules of ../shared/LANGUAGE.md that can be looked for in the class's text and members. */
public final class LanguageTest {
    private static final Check CHECK = new Check("LanguageTest");
    private static final int LONGEST_METHOD = 60;

    public static void main(String[] args) throws IOException {
        Path path = Path.of("src/main/java/Stitchwright.java");
        String source = Files.readString(path, StandardCharsets.UTF_8);
        characters(source);
        String code = source.replaceAll("(?s)/\\*.*?\\*/", "").replaceAll("//[^\n]*", "");
        words(code.replaceAll("\"[^\"]*\"", "\"\"").replaceAll("'[^']+'", "' '"));
        library(code);
        methods(code);
        members();
        CHECK.end();
    }

    private static void characters(String source) {
        CHECK.eq("plain characters", source.chars().allMatch(c -> c == '\n' || c >= 32 && c < 127), true);
        CHECK.eq("no package", source.contains("package "), false);
    }

    private static void words(String code) {
        for (String word : new String[] {"try", "catch", "finally", "synchronized", "assert", "instanceof", "var",
            "native", "volatile", "transient", "Object", "Class", "Thread", "Runnable", "equals", "hashCode", "toString",
            "null", "goto", "record", "yield"}) {
            CHECK.eq("no " + word, Pattern.compile("\\b" + word + "\\b").matcher(code).find(), false);
        }
        CHECK.eq("no lambda", code.contains("->"), false);
        CHECK.eq("no method reference", code.contains("::"), false);
        CHECK.eq("no joining by +", Pattern.compile("\"\\s*\\+|\\+\\s*\"").matcher(code).find(), false);
        CHECK.eq("no static block", Pattern.compile("static\\s*\\{").matcher(code).find(), false);
    }

    private static void library(String code) {
        Set<String> imports = new HashSet<>(Set.of("java.util.Arrays", "java.util.NoSuchElementException"));
        Matcher matcher = Pattern.compile("import ([^;]+);").matcher(code);
        while (matcher.find()) {
            CHECK.eq("import " + matcher.group(1), imports.contains(matcher.group(1)), true);
        }
        Matcher calls = Pattern.compile("\\b(Math|Arrays|System|Integer|Long|String|Character)\\.(\\w+)").matcher(code);
        Set<String> allowed = Set.of("Math.max", "Math.min", "Math.abs", "Arrays.fill");
        while (calls.find()) {
            CHECK.eq(calls.group(), allowed.contains(calls.group()), true);
        }
    }

    private static void methods(String code) {
        String[] lines = code.split("\n");
        int from = 0;
        for (int i = 0; i < lines.length; i++) {
            if (lines[i].matches("( {4}| {8})(?! )(?!.*\\bclass\\b).*") && !lines[i].trim().startsWith("}")) {
                from = lines[i].trim().startsWith("throws") ? from : i;
            }
            if (lines[i].matches("( {4}| {8})}")) {
                CHECK.eq("lines of " + lines[from].trim(), i - from < LONGEST_METHOD || lines[i].startsWith("    }"), true);
            }
        }
    }

    private static void members() {
        Set<String> face = new HashSet<>();
        for (Method method : Stitchwright.class.getMethods()) {
            face.add(method.getName());
        }
        List<Class<?>> classes = new ArrayList<>(List.of(Stitchwright.class.getDeclaredClasses()));
        CHECK.eq("few classes", classes.size() < 12, true);
        classes.add(Stitchwright.class);
        for (Class<?> type : classes) {
            boolean isOuter = type == Stitchwright.class;
            CHECK.eq(type + " is static or the outer one", isOuter || Modifier.isStatic(type.getModifiers()), true);
            int fields = 0;
            for (Field field : type.getDeclaredFields()) {
                fields += Modifier.isStatic(field.getModifiers()) ? 0 : 1;
                CHECK.eq(field + " is private", Modifier.isPrivate(field.getModifiers()), true);
                CHECK.eq(field + " is no changing static", !Modifier.isStatic(field.getModifiers())
                        || Modifier.isFinal(field.getModifiers()), true);
            }
            CHECK.eq(type + " has few fields", fields <= 20, true);
            for (Method method : type.getDeclaredMethods()) {
                CHECK.eq(method + " bears a name of its own", isOuter && Modifier.isPublic(method.getModifiers())
                        || !face.contains(method.getName()), true);
                CHECK.eq(method + " takes few", method.getParameterCount() <= 7, true);
            }
        }
    }
}
