import java.io.IOException;
import java.lang.reflect.Field;
import java.lang.reflect.Method;
import java.lang.reflect.Modifier;
import java.nio.file.Files;
import java.nio.file.Path;
import java.util.ArrayList;
import java.util.Arrays;
import java.util.HashSet;
import java.util.List;
import java.util.Set;
import java.util.regex.Matcher;
import java.util.regex.Pattern;

/** Those rules of LANGUAGE.md that can be read off the text and the compiled class. */
public final class LanguageTest {
    private static final Path SOURCE = Path.of("src/main/java/InitiatorRows.java");
    private static final int MOST_LINES = 60;
    private static final int MOST_PARAMETERS = 7;
    private static final int MOST_CLASSES = 12;
    private static final int MOST_FIELDS = 20;

    private static final Set<String> IMPORTS = Set.of("java.util.ArrayList", "java.util.List", "java.util.Arrays",
            "java.util.Iterator", "java.util.NoSuchElementException");
    private static final String[] NOT_ALLOWED = {"finally", "synchronized", "assert", "package", "native", "volatile",
        "transient", "Object", "System.out", "System.nanoTime", "System.currentTimeMillis", "Random", "Thread",
        "Runtime", "Class", "Exact", "Map", "Set", "Stream", "Optional", "String.format", "NaN"};
    private static final Set<String> LIBRARY = Set.of("length", "charAt", "isEmpty", "equals", "indexOf", "substring",
            "toCharArray", "append", "setCharAt", "setLength", "deleteCharAt", "reverse", "toString", "add", "get",
            "set", "remove", "size", "clear", "of", "arraycopy", "copyOf", "copyOfRange", "fill", "clone", "compare",
            "max", "min", "abs", "bitCount", "floorDiv", "floorMod", "values");
    private static final Set<String> THROWN = Set.of("IllegalStateException", "IllegalArgumentException",
            "IndexOutOfBoundsException", "ArithmeticException", "UnsupportedOperationException",
            "NoSuchElementException", "RuntimeException");
    private static final Set<String> OF_EVERY_OBJECT = Set.of("equals", "hashCode", "toString", "finalize");

    private static int wrong = 0;

    public static void main(String[] args) throws IOException {
        String text = Files.readString(SOURCE);
        String code = withoutTexts(withoutComments(text));
        List<Class<?>> classes = new ArrayList<>(Arrays.asList(InitiatorRows.class.getDeclaredClasses()));
        classes.add(InitiatorRows.class);
        checkWords(code);
        checkImports(code);
        checkCalls(code, classes);
        checkThrows(code);
        checkCharacters(text);
        checkLengths(code);
        check(classes.size() <= MOST_CLASSES, "11: at most twelve classes");
        for (Class<?> one : classes) {
            checkStatics(one);
            checkMembers(one);
        }
        System.out.println(wrong == 0 ? "the rules are kept" : wrong + " faults of the language");
        if (wrong != 0) {
            System.exit(1);
        }
    }

    private static String withoutComments(String text) {
        return text.replaceAll("(?s)/\\*.*?\\*/", "").replaceAll("//[^\n]*", "");
    }

    private static String withoutTexts(String code) {
        return code.replaceAll("\"(?:[^\"\\\\\n]|\\\\.)*\"", "\"\"");
    }

    private static void checkWords(String code) {
        for (String word : NOT_ALLOWED) {
            check(!Pattern.compile("\\b" + Pattern.quote(word) + "\\b").matcher(code).find(), "no word " + word);
        }
        check(!code.contains("->"), "2: no lambda");
        check(!code.contains("::"), "2: no method reference");
        check(!code.contains("\"\" +") && !code.contains("+ \"\""), "10: no texts joined by +");
        check(!Pattern.compile("\\bcatch\\b").matcher(code).find(), "nothing is caught, as nothing needs it");
        check(!Pattern.compile("\\w+Exact\\b").matcher(code).find(), "4: no function whose name ends in Exact");
        check(!Pattern.compile("for \\([^;)]*: ?(initiators|jobs)\\)").matcher(code).find(), "12: lists by index");
    }

    private static void checkImports(String code) {
        Matcher line = Pattern.compile("import ([^;]*);").matcher(code);
        while (line.find()) {
            check(IMPORTS.contains(line.group(1)), "4: import " + line.group(1));
        }
        check(!Pattern.compile("(?m)^(?!import ).*\\bjavax?\\.").matcher(code).find(), "4: no full names of classes");
    }

    private static void checkCalls(String code, List<Class<?>> classes) {
        Set<String> own = new HashSet<>();
        for (Class<?> one : classes) {
            for (Method m : one.getDeclaredMethods()) {
                own.add(m.getName());
            }
        }
        Matcher call = Pattern.compile("\\.\\s*(\\w+)\\s*\\(").matcher(code);
        while (call.find()) {
            String name = call.group(1);
            check(own.contains(name) || LIBRARY.contains(name), "4: a call of " + name);
        }
    }

    private static void checkThrows(String code) {
        Matcher made = Pattern.compile("\\bthrow\\b\\s*(new (\\w+)\\((\"\")?\\);)?").matcher(code);
        while (made.find()) {
            check(made.group(2) != null && THROWN.contains(made.group(2)), "6: " + made.group());
        }
    }

    private static void checkCharacters(String text) {
        for (int k = 0; k < text.length(); k++) {
            if (text.charAt(k) > 255) {
                check(false, "3: character " + (int) text.charAt(k));
            }
        }
    }

    /** A method begins with a line that ends in ") {" and stands as deep as its closing bracket. */
    private static void checkLengths(String code) {
        String[] lines = code.split("\n");
        Pattern head = Pattern.compile("( {4}| {8})(?!if|for|while|switch|else|try|do)\\w.*\\{");
        for (int k = 0; k < lines.length; k++) {
            Matcher m = head.matcher(lines[k]);
            if (!m.matches() || lines[k].contains(" class ")) {
                continue;
            }
            int end = k;
            while (end < lines.length && !lines[end].equals(m.group(1) + "}")) {
                end++;
            }
            check(end - k < MOST_LINES, "11: a short method: " + lines[k].trim());
        }
    }

    private static void checkStatics(Class<?> one) {
        for (Field f : one.getDeclaredFields()) {
            if (!Modifier.isStatic(f.getModifiers())) {
                continue;
            }
            check(Modifier.isFinal(f.getModifiers()), "5: final " + f);
            Class<?> type = f.getType().isArray() ? f.getType().getComponentType() : f.getType();
            check(type.isPrimitive() || type == String.class || type.isEnum(), "5: the type of " + f);
        }
    }

    private static void checkMembers(Class<?> one) {
        long fields = Arrays.stream(one.getDeclaredFields()).filter(f -> !Modifier.isStatic(f.getModifiers())).count();
        check(fields <= MOST_FIELDS, "11: at most twenty fields in " + one);
        for (Method m : one.getDeclaredMethods()) {
            check(m.getParameterCount() <= MOST_PARAMETERS, "11: the parameters of " + m);
            check(!OF_EVERY_OBJECT.contains(m.getName()), "6: no " + m);
        }
        check(!Throwable.class.isAssignableFrom(one), "6: no exception of our own: " + one);
    }

    private static void check(boolean holds, String what) {
        if (!holds) {
            wrong++;
            System.out.println("not so: " + what);
        }
    }
}
