import java.lang.reflect.Constructor;
import java.lang.reflect.Field;
import java.lang.reflect.Method;
import java.lang.reflect.Modifier;
import java.nio.file.Files;
import java.nio.file.Path;
import java.util.ArrayList;
import java.util.Arrays;
import java.util.HashSet;
import java.util.List;
import java.util.Set;
import java.util.TreeSet;
import java.util.regex.Matcher;
import java.util.regex.Pattern;

/** The face as the document writes it, and the rules of the language that a source's text shows. */
public final class LanguageTest {
    private static final Path SOURCE = Path.of("src/main/java/TextBurrow.java");
    private static final Path DOCUMENT = Path.of("../shared/DOC.md");

    public static void main(String[] args) throws Exception {
        Set<String> face = documentFace();
        Due.isEqual("the face", classFace(), face);
        Due.isEqual("how many calls the face has", face.size(), 62);
        members();
        source(Files.readString(SOURCE));
        Due.end();
    }

    /** The lines of the document's class, each without "public" and parameter names. */
    private static Set<String> documentFace() throws Exception {
        Set<String> face = new TreeSet<>();
        for (String line : Files.readAllLines(DOCUMENT)) {
            Matcher matcher = Pattern.compile("    public (.*)\\((.*)\\)(?: throws (.*))?;").matcher(line);
            if (matcher.matches()) {
                StringBuilder types = new StringBuilder();
                for (String parameter : matcher.group(2).split(", ")) {
                    types.append(parameter.split(" ")[0]).append(' ');
                }
                String thrown = matcher.group(3) == null ? "" : matcher.group(3).replace(",", "");
                face.add(matcher.group(1) + "(" + types.toString().trim() + ") " + thrown);
            }
        }
        return face;
    }

    private static Set<String> classFace() {
        Set<String> face = new TreeSet<>();
        for (Constructor<?> made : TextBurrow.class.getDeclaredConstructors()) {
            face.add("TextBurrow(" + names(made.getParameterTypes()) + ") " + names(made.getExceptionTypes()));
        }
        for (Method method : TextBurrow.class.getDeclaredMethods()) {
            if (!Modifier.isPrivate(method.getModifiers())) {
                face.add(method.getReturnType().getSimpleName() + " " + method.getName() + "("
                        + names(method.getParameterTypes()) + ") " + names(method.getExceptionTypes()));
            }
        }
        return face;
    }

    private static String names(Class<?>[] types) {
        List<String> names = new ArrayList<>();
        for (Class<?> type : types) {
            names.add(type.getSimpleName());
        }
        return String.join(" ", names);
    }

    private static void members() {
        Set<String> faceNames = new HashSet<>();
        for (Method method : TextBurrow.class.getDeclaredMethods()) {
            if (Modifier.isPublic(method.getModifiers())) {
                faceNames.add(method.getName());
            }
        }
        Due.isEqual("rule 1: final", Modifier.isFinal(TextBurrow.class.getModifiers()), true);
        List<Class<?>> classes = new ArrayList<>(Arrays.asList(TextBurrow.class.getDeclaredClasses()));
        Due.isEqual("rule 11: classes", classes.size() < 12, true);
        for (Class<?> inner : classes) {
            int modifiers = inner.getModifiers();
            Due.isEqual("rule 1: " + inner, !Modifier.isPublic(modifiers) && !Modifier.isProtected(modifiers)
                    && Modifier.isStatic(modifiers), true);
        }
        classes.add(TextBurrow.class);
        for (Class<?> each : classes) {
            fields(each);
            for (Method method : each.getDeclaredMethods()) {
                boolean isOfFace = each == TextBurrow.class && Modifier.isPublic(method.getModifiers());
                Due.isEqual("rule 1: " + method, isOfFace || !faceNames.contains(method.getName()), true);
                Due.isEqual("rule 11: " + method, method.getParameterCount() <= 7, true);
            }
        }
    }

    private static void fields(Class<?> each) {
        int many = 0;
        for (Field field : each.getDeclaredFields()) {
            int modifiers = field.getModifiers();
            if (Modifier.isStatic(modifiers)) {
                Due.isEqual("rule 5: " + field, Modifier.isFinal(modifiers), true);
            } else {
                many++;
            }
            Due.isEqual("rule 1: " + field, each != TextBurrow.class || Modifier.isPrivate(modifiers), true);
        }
        Due.isEqual("rule 11: fields of " + each, many <= 20, true);
    }

    private static void source(String source) {
        Due.isEqual("no package line", source.contains("\npackage "), false);
        String code = source.replaceAll("(?s)/\\*.*?\\*/", "").replaceAll("//[^\n]*", "");
        String bare = code.replaceAll("\"[^\"]*\"", "\"\"");
        String[] never = {"->", "::", "\\btry\\b", "\\bcatch\\b", "\\bfinally\\b", "\\bsynchronized\\b",
            "\\bassert\\b", "\\bthread\\b", "System\\.(?!arraycopy)", "Math\\.(?!max|min)", "Exact\\(", "@",
            "\"\" *\\+", "\\+ *\"\"", "static \\{"};
        for (String each : never) {
            Due.isEqual("never " + each, Pattern.compile(each).matcher(bare).find(), false);
        }
        Matcher imports = Pattern.compile("import ([^;]*);").matcher(bare);
        while (imports.find()) {
            boolean isListed = List.of("java.util.Arrays", "java.util.NoSuchElementException")
                    .contains(imports.group(1));
            Due.isEqual("rule 4: " + imports.group(1), isListed, true);
        }
        Due.isEqual("signs of constants", code.chars().allMatch(sign -> sign < 128), true);
        methodLengths(source);
    }

    private static void methodLengths(String source) {
        String[] lines = source.split("\n");
        int start = -1;
        for (int i = 0; i < lines.length; i++) {
            if (lines[i].matches(" {4}( {4})?[a-z].*\\(.*") && !lines[i].contains(" = ") && !lines[i].endsWith(";")) {
                start = i;
            }
            if (start >= 0 && lines[i].matches(" {4}( {4})?\\}")) {
                Due.isEqual("rule 11: the method in line " + (start + 1), i - start < 60, true);
                start = -1;
            }
        }
    }
}
