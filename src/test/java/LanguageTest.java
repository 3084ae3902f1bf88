import java.io.IOException;
import java.lang.reflect.Constructor;
import java.lang.reflect.Field;
import java.lang.reflect.Method;
import java.lang.reflect.Modifier;
import java.nio.file.Files;
import java.nio.file.Path;
import java.util.ArrayList;
import java.util.Arrays;
import java.util.HashMap;
import java.util.HashSet;
import java.util.List;
import java.util.Map;
import java.util.Set;
import java.util.TreeSet;
import java.util.regex.Matcher;
import java.util.regex.Pattern;

/** The face of the class, and those rules of ../shared/LANGUAGE.md that can be seen from outside or by words. */
public final class LanguageTest {
    private static final Path SOURCE = Path.of("src/main/java/ChalkBeds.java");
    private static final String[] FACE = {"int set(int,int)", "int rock(int,int)", "int lay(int,int,int)", "int read()",
        "int dig(int,int)", "int rain(int,int)", "int settle()", "int cell(int,int)", "int layer(int,int,int)",
        "int count(int)", "int water(int,int)", "int power(int,int)", "int leastRain(int,int)", "int feeds(int)",
        "int ifRained(int,int,int)", "int untilBare(int,int)", "int put(long)", "int wipe()", "int fault()",
        "int undo()", "int save(int)", "int restore(int)"};
    private static final String[] FORBIDDEN = {"throw", "throws", "try", "catch", "finally", "synchronized", "assert",
        "instanceof", "native", "volatile", "transient", "strictfp", "float", "double", "Object", "Exception",
        "System.out", "System.nano", "System.current", "Thread", "Random", "Math.\\w+Exact", "hashCode", "equals"};
    private static final Due due = new Due("LanguageTest");

    private LanguageTest() {
    }

    public static void main(String[] args) throws IOException {
        List<Class<?>> classes = new ArrayList<>(List.of(ChalkBeds.class));
        classes.addAll(Arrays.asList(ChalkBeds.class.getDeclaredClasses()));
        theFace();
        theConstants();
        for (Class<?> c : classes) {
            theMembers(c);
        }
        due.holds("at most twelve classes", classes.size() <= 12);
        String source = Files.readString(SOURCE);
        theWords(source);
        theLengths(source);
        theDepth(source);
        due.end();
    }

    private static String told(Method m) {
        List<String> types = new ArrayList<>();
        for (Class<?> type : m.getParameterTypes()) {
            types.add(type.getSimpleName());
        }
        return m.getReturnType().getSimpleName() + " " + m.getName() + "(" + String.join(",", types) + ")";
    }

    private static void theFace() {
        Set<String> face = new TreeSet<>();
        for (Method m : ChalkBeds.class.getDeclaredMethods()) {
            if (!Modifier.isPrivate(m.getModifiers())) {
                face.add(told(m));
                due.holds(m.getName() + " is public", Modifier.isPublic(m.getModifiers()));
                due.holds(m.getName() + " is not static", !Modifier.isStatic(m.getModifiers()));
            }
        }
        due.holds("the methods of the face: " + face, face.equals(new TreeSet<>(List.of(FACE))));
        Constructor<?>[] constructors = ChalkBeds.class.getDeclaredConstructors();
        due.is("constructors", constructors.length, 1);
        due.is("their parameters", constructors[0].getParameterCount(), 0);
        due.holds("the constructor is public", Modifier.isPublic(constructors[0].getModifiers()));
        due.is("the class is public and final", ChalkBeds.class.getModifiers(), Modifier.PUBLIC | Modifier.FINAL);
    }

    private static void theConstants() {
        Map<String, Integer> constants = new HashMap<>();
        String[] names = {"NO_SUCH", "BAD_VALUE", "BAD_TEXT", "TOO_MANY", "NOT_POSSIBLE", "NONE", "FINE", "MIDDLE",
            "COARSE", "HARD", "STEEP"};
        for (int i = 0; i < names.length; i++) {
            constants.put(names[i], i < 6 ? -1 - i : i - 6);
        }
        int found = 0;
        for (Field f : ChalkBeds.class.getDeclaredFields()) {
            if (Modifier.isPrivate(f.getModifiers())) {
                continue;
            }
            found++;
            due.is(f.getName() + " is public static final", f.getModifiers(),
                Modifier.PUBLIC | Modifier.STATIC | Modifier.FINAL);
            try {
                due.is(f.getName(), f.getInt(null), constants.getOrDefault(f.getName(), Integer.MAX_VALUE));
            } catch (IllegalAccessException e) {
                due.holds(f.getName() + " can be read", false);
            }
        }
        due.is("public constants", found, names.length);
    }

    private static void theMembers(Class<?> c) {
        Set<String> open = new HashSet<>();
        for (String method : FACE) {
            open.add(method.substring(4, method.indexOf('(')));
        }
        if (c != ChalkBeds.class) {
            int hidden = c.getModifiers() & (Modifier.PUBLIC | Modifier.PROTECTED);
            due.holds(c.getName() + " is static and hidden", Modifier.isStatic(c.getModifiers()) && hidden == 0);
            due.is("classes in " + c.getName(), c.getDeclaredClasses().length, 0);
        }
        int fields = 0;
        for (Field f : c.getDeclaredFields()) {
            if (Modifier.isStatic(f.getModifiers())) {
                due.holds(f.getName() + " is final", Modifier.isFinal(f.getModifiers()));
            } else {
                fields++;
            }
        }
        due.holds(c.getName() + " has at most twenty fields", fields <= 20);
        for (Method m : c.getDeclaredMethods()) {
            due.holds(m.getName() + " has at most seven parameters", m.getParameterCount() <= 7);
            boolean isOpen = c == ChalkBeds.class && Modifier.isPublic(m.getModifiers());
            due.holds(c.getName() + "." + m.getName() + " bears a name of its own", isOpen || !open.contains(m.getName()));
        }
    }

    private static String withoutComments(String source) {
        return source.replaceAll("(?s)/\\*.*?\\*/", "").replaceAll("//[^\n]*", "");
    }

    private static void theWords(String source) {
        String code = withoutComments(source);
        for (String word : FORBIDDEN) {
            due.holds("no " + word, !Pattern.compile("\\b" + word + "\\b").matcher(code).find());
        }
        due.holds("no lambda and no method reference", !code.contains("->") && !code.contains("::"));
        due.holds("no package", !code.contains("package "));
        due.holds("no other import", code.replace("import java.util.Arrays;", "").indexOf("import ") < 0);
        for (int i = 0; i < source.length(); i++) {
            if (source.charAt(i) > 126) {
                due.holds("only plain signs, not at " + i, false);
            }
        }
        Matcher library = Pattern.compile("\\b(Arrays|Math|Integer|Long|System|String)\\.(\\w+)").matcher(code);
        Set<String> allowed = Set.of("Arrays.copyOf", "Arrays.fill", "Math.min", "Math.max", "Math.abs",
            "Integer.bitCount", "System.arraycopy");
        while (library.find()) {
            due.holds(library.group() + " is allowed", allowed.contains(library.group()));
        }
    }

    /** The lines of each method, by the way the file is indented. */
    private static Map<String, List<String>> methods(String source) {
        Map<String, List<String>> methods = new HashMap<>();
        Pattern head = Pattern.compile("^( {4}| {8})(?:[\\w\\[\\]]+ )*(\\w+)\\([^()]*\\) \\{$");
        List<String> lines = List.of(withoutComments(source).split("\n"));
        for (int i = 0; i < lines.size(); i++) {
            Matcher m = head.matcher(lines.get(i));
            if (!m.find() || List.of("if", "for", "while", "switch").contains(m.group(2))) {
                continue;
            }
            int end = i;
            while (end < lines.size() && !lines.get(end).equals(m.group(1) + "}")) {
                end++;
            }
            methods.computeIfAbsent(m.group(2), name -> new ArrayList<>()).addAll(lines.subList(i + 1, end));
        }
        return methods;
    }

    private static void theLengths(String source) {
        Map<String, List<String>> methods = methods(source);
        due.holds("methods are found", methods.size() > FACE.length);
        methods.forEach((name, lines) -> due.holds(name + " has at most 60 lines", lines.size() <= 60));
    }

    /** By name alone, so that methods of one name count as one: the depth can only be told too high. */
    private static void theDepth(String source) {
        Map<String, List<String>> methods = methods(source);
        for (String name : methods.keySet()) {
            int depth = depthOf(name, methods, 1);
            due.holds(name + " goes at most eight deep, not " + depth, depth <= 8);
        }
    }

    private static int depthOf(String name, Map<String, List<String>> methods, int open) {
        if (open > 20) {
            return open;
        }
        int deepest = 1;
        Matcher call = Pattern.compile("\\b(\\w+)\\(").matcher(String.join("\n", methods.get(name)));
        while (call.find()) {
            String called = call.group(1);
            if (methods.containsKey(called) && !(called.equals("copyFrom") && name.equals("copyFrom"))) {
                deepest = Math.max(deepest, 1 + depthOf(called, methods, open + 1));
            }
        }
        return deepest;
    }
}
