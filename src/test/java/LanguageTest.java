import java.io.IOException;
import java.lang.reflect.Constructor;
import java.lang.reflect.Executable;
import java.lang.reflect.Field;
import java.lang.reflect.Method;
import java.lang.reflect.Modifier;
import java.nio.file.Files;
import java.nio.file.Path;
import java.util.ArrayList;
import java.util.List;
import java.util.Set;
import java.util.TreeSet;
import java.util.regex.Matcher;
import java.util.regex.Pattern;

/** What can be seen of the rules of LANGUAGE.md, by their numbers; the others are for the reader's eye. */
public final class LanguageTest {
    private static final Path SOURCE = Path.of("src/main/java/DatumDesk.java");
    private static final Set<String> LIBRARY = Set.of("Math.min", "System.arraycopy");
    private static final Set<Class<?>> TYPES = Set.of(int.class, long.class, boolean.class, int[].class, void.class);

    public static void main(String[] args) throws IOException {
        String source = withoutCommentsAndTexts(Files.readString(SOURCE));
        wordsThatAreRuledOut(source);
        libraryThatIsUsed(source);
        objectsAreMadeInConstructorsAlone(source);
        methodsAreShort(source);
        List<Class<?>> classes = new ArrayList<>(List.of(DatumDesk.class.getDeclaredClasses()));
        Check.due("rule 11, at most twelve classes", classes.size() < 12, true);
        classes.add(DatumDesk.class);
        for (Class<?> one : classes) {
            membersOf(one);
        }
        Check.finish();
    }

    private static String withoutCommentsAndTexts(String source) {
        return source.replaceAll("(?s)/\\*.*?\\*/", "").replaceAll("//[^\n]*", "")
                .replaceAll("'(?:\\\\.|[^'\\\\])'", "0").replaceAll("\"(?:\\\\.|[^\"\\\\])*\"", "0");
    }

    /** Rules 2 to 6 and 13; some words are allowed with conditions, but the class does without them. */
    private static void wordsThatAreRuledOut(String source) {
        String[] words = {
            "import", "package", "try", "catch", "finally", "throw", "throws", "synchronized", "assert", "volatile",
            "native", "double", "float", "var", "instanceof", "equals", "hashCode", "toString", "protected", "Thread",
            "Object", "Random"
        };
        for (String word : words) {
            Check.due("the word " + word, Pattern.compile("\\b" + word + "\\b").matcher(source).find(), false);
        }
        Check.due("a lambda", source.contains("->"), false);
        Check.due("a method reference", source.contains("::"), false);
        Check.due("a static initialiser", source.matches("(?s).*\\bstatic\\s*\\{.*"), false);
    }

    /** Rule 4: names with a big first letter ahead of a dot are the library's or the class's own. */
    private static void libraryThatIsUsed(String source) {
        TreeSet<String> others = new TreeSet<>();
        Matcher used = Pattern.compile("\\b[A-Z][a-z]\\w*\\.\\w+").matcher(source);
        while (used.find()) {
            if (!LIBRARY.contains(used.group())) {
                others.add(used.group());
            }
        }
        Check.due("rule 4, other parts of the library", others.toString(), "[]");
    }

    /** Rule 12: what a run makes is one desk's rows, so no call may make more. */
    private static void objectsAreMadeInConstructorsAlone(String source) {
        String member = "";
        for (String line : source.split("\n")) {
            if (line.matches("(?:    |        )(?:public|private) .*")) {
                member = line.trim();
            }
            if (line.contains("new ")) {
                boolean field = member.matches("private final .* = new .*;");
                boolean constructor = member.matches("(?:public|private) \\w+\\(.*");
                Check.due("rule 12, made in <" + member + ">", field || constructor, true);
            }
        }
    }

    /** Rule 11. */
    private static void methodsAreShort(String source) {
        String[] lines = source.split("\n");
        for (int i = 0; i < lines.length; i++) {
            if (lines[i].matches(" +(?:public|private) [^=;]*\\(.*\\{")) {
                String end = lines[i].replaceAll("\\S.*", "") + "}";
                int last = i;
                while (last < lines.length - 1 && !lines[last].equals(end)) {
                    last++;
                }
                Check.due("rule 11, lines of <" + lines[i].trim() + "> are at most 60", last - i < 60, true);
            }
        }
    }

    /** Rules 1, 3, 5 and 11. */
    private static void membersOf(Class<?> one) {
        Set<String> face = new TreeSet<>();
        for (Method method : DatumDesk.class.getDeclaredMethods()) {
            if (Modifier.isPublic(method.getModifiers())) {
                face.add(method.getName());
            }
        }
        for (Method method : one.getDeclaredMethods()) {
            boolean isPrivate = Modifier.isPrivate(method.getModifiers());
            Check.due("rule 1, " + method, isPrivate && face.contains(method.getName()), false);
            dueType(method + " answers", method.getReturnType());
            parametersOf(method);
        }
        for (Constructor<?> made : one.getDeclaredConstructors()) {
            parametersOf(made);
        }
        int ownFields = 0;
        for (Field field : one.getDeclaredFields()) {
            dueType(field.toString(), field.getType());
            boolean isStatic = Modifier.isStatic(field.getModifiers());
            Check.due("rule 5, " + field, isStatic && !Modifier.isFinal(field.getModifiers()), false);
            ownFields += isStatic ? 0 : 1;
        }
        Check.due("rule 11, at most twenty fields in " + one, ownFields <= 20, true);
    }

    private static void parametersOf(Executable one) {
        Check.due("rule 11, at most seven parameters of " + one, one.getParameterCount() <= 7, true);
        for (Class<?> type : one.getParameterTypes()) {
            dueType("a parameter of " + one, type);
        }
    }

    private static void dueType(String what, Class<?> type) {
        boolean own = type.getEnclosingClass() == DatumDesk.class;
        Check.due("rule 3, the type of " + what, own || TYPES.contains(type), true);
    }
}
