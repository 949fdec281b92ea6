import java.lang.reflect.Constructor;
import java.lang.reflect.Field;
import java.lang.reflect.Method;
import java.lang.reflect.Modifier;
import java.nio.charset.StandardCharsets;
import java.nio.file.Files;
import java.nio.file.Path;
import java.util.ArrayList;
import java.util.List;
import java.util.Set;
import java.util.TreeSet;
import java.util.regex.Matcher;
import java.util.regex.Pattern;

/** What of ../shared/LANGUAGE.md can be seen by looking at the class and its file. */
public final class LanguageTest {
    private static final Path FILE = Path.of("src/main/java/TiedThrees.java");
    private static final Check C = new Check();

    public static void main(String[] args) throws Exception {
        C.about("LANGUAGE.md");
        String source = Files.readString(FILE, StandardCharsets.US_ASCII);
        String code = source.replaceAll("(?s)/\\*.*?\\*/", "").replaceAll("//[^\n]*", "")
            .replaceAll("\"[^\"\n]*\"", "\"\"").replaceAll("'[^'\n]+'", "' '");
        words(code);
        imports(code);
        methodLengths(code);
        face();
        for (Class<?> inside : classes()) {
            shape(inside);
        }
        C.that("rule 11: more than twelve classes", classes().size() <= 12);
        C.end("LanguageTest");
    }

    private static List<Class<?>> classes() {
        List<Class<?>> all = new ArrayList<>(List.of(TiedThrees.class.getDeclaredClasses()));
        all.add(TiedThrees.class);
        return all;
    }

    private static void words(String code) {
        for (String word : new String[] {"throw", "throws", "try", "catch", "finally", "synchronized", "assert", "Object",
            "equals", "hashCode", "toString", "random", "Thread", "HashMap", "null", "super", "package", "default ->"}) {
            C.that("the file has the word " + word, !Pattern.compile("\\b" + word + "\\b").matcher(code).find());
        }
        for (String sign : new String[] {"->", "::", "@", "static {", "\t", "\"\"  +", "+ \"\""}) {
            C.that("the file has " + sign, !code.contains(sign));
        }
        for (String use : new String[] {"Arrays", "System", "Math", "Integer"}) {
            Matcher m = Pattern.compile("\\b" + use + "\\.(\\w+)\\(").matcher(code);
            while (m.find()) {
                String name = m.group(1);
                C.that("rule 4: " + use + "." + name,
                    Set.of("fill", "arraycopy", "floorMod", "max", "min", "bitCount").contains(name));
            }
        }
    }

    private static void imports(String code) {
        Matcher m = Pattern.compile("import ([^;]+);").matcher(code);
        while (m.find()) {
            C.due("import " + m.group(1), m.group(1).equals("java.util.Arrays") ? 1 : 0, 1);
        }
    }

    private static void methodLengths(String code) {
        int start = -1;
        String[] lines = code.split("\n");
        for (int i = 0; i < lines.length; i++) {
            if (lines[i].matches("( {4}| {8})\\S.*\\) \\{")) {
                start = i;
            } else if (lines[i].matches("( {4}| {8})\\}") && start >= 0) {
                C.that("rule 11: a long method at line " + start, i - start <= 60);
                start = -1;
            }
        }
    }

    private static void face() {
        Set<String> open = new TreeSet<>();
        for (Method method : TiedThrees.class.getDeclaredMethods()) {
            if (Modifier.isPublic(method.getModifiers())) {
                open.add(method.getName());
            }
        }
        C.due("how many methods the face has", open.size(), 29);
        for (Class<?> inside : classes()) {
            for (Method method : inside.getDeclaredMethods()) {
                boolean ofFace = inside == TiedThrees.class && Modifier.isPublic(method.getModifiers());
                C.that("rule 1: " + inside.getSimpleName() + "." + method.getName() + " bears a public name",
                    ofFace || !open.contains(method.getName()));
            }
        }
        for (Method method : TiedThrees.class.getDeclaredMethods()) {
            int flags = method.getModifiers();
            C.that("rule 1: " + method.getName() + " is neither public nor private", Modifier.isPublic(flags) || Modifier.isPrivate(flags));
        }
        for (Field field : TiedThrees.class.getDeclaredFields()) {
            boolean constant = Set.of("NONE", "BAD", "NO", "FULL").contains(field.getName());
            C.that("rule 1: " + field.getName(), constant == Modifier.isPublic(field.getModifiers())
                && (constant || Modifier.isPrivate(field.getModifiers())));
        }
        C.that("rule 1: the class is public and final",
            Modifier.isPublic(TiedThrees.class.getModifiers()) && Modifier.isFinal(TiedThrees.class.getModifiers()));
    }

    private static void shape(Class<?> inside) {
        int fields = 0;
        for (Field field : inside.getDeclaredFields()) {
            if (Modifier.isStatic(field.getModifiers())) {
                C.that("rule 5: " + field.getName(), Modifier.isFinal(field.getModifiers()));
            } else {
                fields++;
            }
        }
        C.that("rule 11: many fields in " + inside.getSimpleName(), fields <= 20);
        for (Method method : inside.getDeclaredMethods()) {
            C.that("rule 11: many parameters of " + method.getName(), method.getParameterCount() <= 7);
        }
        for (Constructor<?> made : inside.getDeclaredConstructors()) {
            C.that("rule 11: many parameters of a constructor", made.getParameterCount() <= 7);
        }
        if (inside != TiedThrees.class) {
            C.that("rule 2: " + inside.getSimpleName() + " is static", Modifier.isStatic(inside.getModifiers()));
            C.that("rule 2: " + inside.getSimpleName() + " is not public",
                !Modifier.isPublic(inside.getModifiers()) && !Modifier.isProtected(inside.getModifiers()));
        }
    }
}
