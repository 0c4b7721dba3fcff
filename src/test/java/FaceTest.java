import java.lang.reflect.Constructor;
import java.lang.reflect.Field;
import java.lang.reflect.Method;
import java.lang.reflect.Modifier;
import java.nio.file.Files;
import java.nio.file.Path;
import java.util.Set;
import java.util.TreeSet;
import java.util.regex.Matcher;
import java.util.regex.Pattern;

/** The public face as the document has it, and the rules of LANGUAGE.md that can be read off. */
public final class FaceTest {
    private static final Path SOURCE = Path.of("src/main/java/LookAsideCache.java");
    private static final String[] FACE = {
        "get ii", "look i", "fill i", "write iii", "apply i", "tick i", "cold ii", "go ii", "set ii", "next", "undo", "redo",
        "setting i", "entry iii", "beside iii", "client ii", "store iii", "region ii", "within iii", "least ii", "outdated i",
        "lag ii", "own ii", "due ii", "hottest i", "led i", "storm iiii", "settled i", "tried iii", "best ii", "foreseen ii",
        "feed i", "plan i", "orders iii", "witness ii", "row ii", "put iil", "element ii", "save iii", "restore iiii",
        "image", "back", "count i"};
    private static final String[] CONSTANTS = {"BAD", "NOT", "FULL", "WAITS", "STATE", "LEASED"};
    private static final int MOST_CLASSES = 12, MOST_FIELDS = 20, MOST_PARAMETERS = 7, MOST_LINES = 60;

    private static int wrong;

    public static void main(String[] args) throws Exception {
        publicFace();
        for (Class<?> inside : LookAsideCache.class.getDeclaredClasses()) {
            check(Modifier.isStatic(inside.getModifiers()), inside + " is not static");
            check(!Modifier.isPublic(inside.getModifiers()), inside + " is public");
            shape(inside);
        }
        shape(LookAsideCache.class);
        check(LookAsideCache.class.getDeclaredClasses().length < MOST_CLASSES, "too many classes");
        source(Files.readString(SOURCE));
        System.out.println(wrong == 0 ? "the face is as due" : wrong + " faults of the face");
        if (wrong != 0) {
            System.exit(1);
        }
    }

    private static void check(boolean holds, String fault) {
        if (!holds) {
            wrong++;
            System.out.println(fault);
        }
    }

    private static void publicFace() throws Exception {
        Class<?> type = LookAsideCache.class;
        check(Modifier.isFinal(type.getModifiers()) && Modifier.isPublic(type.getModifiers()), "not public and final");
        Set<String> seen = new TreeSet<>();
        for (Method m : type.getDeclaredMethods()) {
            if (Modifier.isPrivate(m.getModifiers())) {
                continue;
            }
            StringBuilder told = new StringBuilder(m.getName()).append(m.getParameterCount() > 0 ? " " : "");
            for (Class<?> p : m.getParameterTypes()) {
                told.append(p == int.class ? "i" : p == long.class ? "l" : "?");
            }
            check(Modifier.isPublic(m.getModifiers()), m + " is not public");
            check(m.getReturnType() == (m.getName().equals("element") ? long.class : int.class), m + " answers another type");
            check(seen.add(told.toString()), m + " stands twice");
        }
        check(seen.equals(new TreeSet<>(Set.of(FACE))), "the methods are " + seen);
        Set<String> constants = new TreeSet<>();
        for (Field f : type.getDeclaredFields()) {
            if (!Modifier.isPrivate(f.getModifiers())) {
                constants.add(f.getName());
            }
        }
        check(constants.equals(new TreeSet<>(Set.of(CONSTANTS))), "the constants are " + constants);
        for (int i = 0; i < CONSTANTS.length; i++) {
            check(type.getField(CONSTANTS[i]).getInt(null) == -1 - i, CONSTANTS[i] + " has another number");
        }
        Constructor<?>[] made = type.getDeclaredConstructors();
        check(made.length == 1 && made[0].getParameterCount() == 0, "another constructor");
        check(Modifier.isPublic(made[0].getModifiers()), "the constructor is not public");
    }

    private static void shape(Class<?> type) {
        int fields = 0;
        for (Field f : type.getDeclaredFields()) {
            if (Modifier.isStatic(f.getModifiers())) {
                check(Modifier.isFinal(f.getModifiers()), f + " is not final");
            } else {
                fields++;
            }
        }
        check(fields <= MOST_FIELDS, type + " has too many fields");
        for (Method m : type.getDeclaredMethods()) {
            check(m.getParameterCount() <= MOST_PARAMETERS, m + " takes too much");
            boolean ofTheFace = type == LookAsideCache.class && Modifier.isPublic(m.getModifiers());
            for (String name : FACE) {
                check(ofTheFace || !m.getName().equals(name.split(" ")[0]), m + " bears a public name");
            }
        }
    }

    private static void source(String text) {
        String bare = text.replaceAll("(?s)/\\*.*?\\*/", "").replaceAll("//[^\n]*", "").replaceAll("\"[^\"]*\"", "\"\"");
        String[] banned = {"\\bthrows?\\b", "\\btry\\b", "\\bcatch\\b", "\\bsynchronized\\b", "\\bassert\\b", "->", "::",
            "Exact\\b", "\\bThread\\b", "\\bRandom\\b", "\\bObject\\b", "\\bequals\\b", "\\bhashCode\\b", "\\btoString\\b",
            "\\bpackage\\b", "\\bstatic\\s*\\{", "\\bSystem\\.(?!arraycopy\\b)", "\\bimport (?!java\\.util\\.Arrays;)",
            "\"\"\\s*\\+|\\+\\s*\"\"", "\\bArrays\\.(?!(fill|copyOf|copyOfRange)\\b)",
            "\\b(Math|Integer|Long)\\.(?!(min|max|bitCount|MAX_VALUE|MIN_VALUE)\\b)"};
        for (String ban : banned) {
            Matcher found = Pattern.compile(ban).matcher(bare);
            check(!found.find(), "the source has " + ban);
        }
        check(text.chars().allMatch(sign -> sign >= 1 && sign <= 127), "the source has another sign than 1 to 127");
        int start = -1;
        String[] lines = text.split("\n");
        for (int i = 0; i < lines.length; i++) {
            if (lines[i].matches(" {4}( {4})?[a-zA-Z].*\\) \\{")) {
                start = i;
            } else if (lines[i].matches(" {4}( {4})?\\}") && start >= 0) {
                check(i - start < MOST_LINES, "a long method: " + lines[start].trim());
                start = -1;
            }
        }
    }
}
