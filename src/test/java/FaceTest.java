import java.lang.reflect.Constructor;
import java.lang.reflect.Field;
import java.lang.reflect.Method;
import java.lang.reflect.Modifier;
import java.nio.charset.StandardCharsets;
import java.nio.file.Files;
import java.nio.file.Path;
import java.util.ArrayList;
import java.util.Arrays;
import java.util.List;
import java.util.Set;
import java.util.TreeSet;
import java.util.regex.Matcher;
import java.util.regex.Pattern;

/** The public face, and those rules of LANGUAGE.md that can be seen from outside; the source's path is the argument. */
public final class FaceTest {
    private static final Set<String> CALLS = Set.of("add(int,int,int)", "drop(int)", "kind(int,int)", "row()",
        "set(int,int,int)", "remove(int)", "makeOver(int,int)", "forget()", "type(char)", "clearText()", "perform()",
        "stopped(int)", "undo()", "keep()", "restore()", "column(int,int,int)", "season(int,int)", "value(int,int)",
        "read(int,int,int,int)", "seasonOf(int)", "view(int,int,int)", "viewColumn(int,int,int,int)", "bestFrom()",
        "bestSeason(int)", "count(int)");
    private static final Set<String> CONSTANTS = Set.of("UNKNOWN", "BAD_VALUE", "FULL", "NOT_POSSIBLE", "NONE");
    private static final Set<String> IMPORTS = Set.of("Arrays", "ArrayList", "List", "Iterator");

    private static final Checks CHECKS = new Checks();

    public static void main(String[] args) throws Exception {
        CHECKS.topic("face");
        face();
        CHECKS.topic("classes");
        classes();
        CHECKS.topic("source");
        source(Files.readString(Path.of(args[0]), StandardCharsets.ISO_8859_1));
        CHECKS.end();
    }

    private static void face() {
        Class<?> face = ColumnSeasons.class;
        CHECKS.dueThat("it is final and public", face.getModifiers() == (Modifier.PUBLIC | Modifier.FINAL));
        Set<String> calls = new TreeSet<>();
        for (Method method : face.getDeclaredMethods()) {
            if (!Modifier.isPrivate(method.getModifiers())) {
                calls.add(signature(method));
                CHECKS.dueThat(method + " is public", method.getModifiers() == Modifier.PUBLIC);
                CHECKS.dueThat(method + " answers int", method.getReturnType() == int.class);
            }
        }
        CHECKS.dueThat("the calls are those of the document: " + calls, calls.equals(CALLS));
        Set<String> constants = new TreeSet<>();
        for (Field field : face.getDeclaredFields()) {
            if (!Modifier.isPrivate(field.getModifiers())) {
                constants.add(field.getName());
            }
        }
        CHECKS.dueThat("the constants are those of the document: " + constants, constants.equals(CONSTANTS));
        Constructor<?>[] constructors = face.getDeclaredConstructors();
        CHECKS.due("constructors", constructors.length, 1);
        CHECKS.due("parameters of the constructor", constructors[0].getParameterCount(), 0);
        CHECKS.dueThat("the constructor is public", Modifier.isPublic(constructors[0].getModifiers()));
    }

    private static String signature(Method method) {
        List<String> types = new ArrayList<>();
        for (Class<?> type : method.getParameterTypes()) {
            types.add(type.getName());
        }
        return method.getName() + "(" + String.join(",", types) + ")";
    }

    private static void classes() {
        Set<String> publicNames = new TreeSet<>();
        CALLS.forEach(call -> publicNames.add(call.substring(0, call.indexOf('('))));
        List<Class<?>> classes = new ArrayList<>(Arrays.asList(ColumnSeasons.class.getDeclaredClasses()));
        CHECKS.dueThat("some twelve classes at most", classes.size() < 12);
        for (Class<?> inner : classes) {
            CHECKS.dueThat(inner + " is static", Modifier.isStatic(inner.getModifiers()));
            CHECKS.dueThat(inner + " is not for others", !Modifier.isPublic(inner.getModifiers()));
        }
        classes.add(ColumnSeasons.class);
        for (Class<?> one : classes) {
            int fields = 0;
            for (Field field : one.getDeclaredFields()) {
                boolean isConstant = Modifier.isStatic(field.getModifiers());
                CHECKS.dueThat(field + " is final", !isConstant || Modifier.isFinal(field.getModifiers()));
                fields += isConstant ? 0 : 1;
            }
            CHECKS.dueThat(one + " has some twenty fields at most", fields <= 20);
            for (Method method : one.getDeclaredMethods()) {
                CHECKS.dueThat(method + " takes seven at most", method.getParameterCount() <= 7);
                boolean isPublic = one == ColumnSeasons.class && Modifier.isPublic(method.getModifiers());
                CHECKS.dueThat(method + " has a name of its own", isPublic || !publicNames.contains(method.getName()));
            }
        }
    }

    private static void source(String whole) {
        CHECKS.dueThat("signs are 1 to 127", whole.chars().allMatch(sign -> sign >= 1 && sign <= 127));
        String code = whole.replaceAll("(?s)/\\*.*?\\*/", " ").replaceAll("//[^\n]*", " ")
            .replaceAll("\"([^\"\\\\]|\\\\.)*\"", "\"\"").replaceAll("'([^'\\\\]|\\\\.)'", "' '");
        for (String word : List.of("package", "throw", "throws", "try", "catch", "finally", "synchronized", "assert",
                "volatile", "native", "var", "protected", "Object", "System\\.(?!arraycopy)", "->", "::",
                "equals", "hashCode", "toString", "Exact")) {
            String edge = Character.isLetter(word.charAt(0)) ? "\\b" : "";
            boolean stands = Pattern.compile(edge + word + (word.endsWith(")") ? "" : edge)).matcher(code).find();
            CHECKS.dueThat("no '" + word + "'", !stands);
        }
        Matcher imports = Pattern.compile("import\\s+([\\w.*]+)").matcher(code);
        while (imports.find()) {
            String name = imports.group(1);
            boolean isListed = name.startsWith("java.util.") && IMPORTS.contains(name.substring(10));
            CHECKS.dueThat("import of " + name, isListed);
        }
        methodLengths(code);
    }

    /** From the line that opens a method to the next line that closes a block and is indented like it. */
    private static void methodLengths(String code) {
        String[] lines = code.split("\n");
        for (int i = 0; i < lines.length; i++) {
            Matcher head = Pattern.compile("^( +)[\\w\\[\\] ]+\\([^;=]*\\) \\{$").matcher(lines[i]);
            boolean isMethod = head.matches() && !lines[i].matches(" +(if|for|while|switch|} else).*");
            int end = i;
            while (isMethod && end < lines.length && !lines[end].equals(head.group(1) + "}")) {
                end++;
            }
            CHECKS.dueThat("short method: " + lines[i].trim(), end - i <= 60);
        }
    }
}
