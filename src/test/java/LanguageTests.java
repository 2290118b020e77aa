import java.io.IOException;
import java.lang.management.ManagementFactory;
import java.lang.reflect.Field;
import java.lang.reflect.Method;
import java.lang.reflect.Modifier;
import java.nio.file.Files;
import java.nio.file.Path;
import java.util.ArrayList;
import java.util.Arrays;
import java.util.List;
import java.util.Set;
import java.util.TreeSet;
import java.util.regex.Pattern;
import java.util.stream.Collectors;

/** The face of the class, and the rules of LANGUAGE.md that can be seen from the class file or the source's text. */
public final class LanguageTests {
    private static final Class<?> INN = QuestionsInAnInn.class;
    private static final Checks CHECKS = new Checks("language");

    public static void main(String[] args) throws IOException, ReflectiveOperationException {
        faceIsTheDocuments();
        nothingElseIsSeen();
        classesInside();
        wordsOfTheSource();
        lengthOfMethods();
        roomOfCalls();
        CHECKS.end();
    }

    private static String signature(Method method) {
        String types = Arrays.stream(method.getParameterTypes()).map(Class::getSimpleName).collect(Collectors.joining(","));
        return method.getReturnType().getSimpleName() + " " + method.getName() + "(" + types + ")";
    }

    private static boolean isPublic(int modifiers) {
        return Modifier.isPublic(modifiers);
    }

    private static void faceIsTheDocuments() throws IOException {
        Set<String> told = new TreeSet<>();
        for (String line : Files.readAllLines(Path.of("../shared/DOC.md"))) {
            if (!line.startsWith("    public ") || !line.contains("(") || line.contains("InAnInn(")) continue;
            String face = line.replace("public ", "").replace(";", "").strip();
            told.add(face.replaceAll("(int|long) [a-zA-Z]+(?=[,)])", "$1").replace(", ", ","));
        }
        Set<String> built = new TreeSet<>();
        for (Method method : INN.getDeclaredMethods()) {
            if (isPublic(method.getModifiers())) built.add(signature(method));
        }
        CHECKS.due("methods of the face", built.size(), 40);
        CHECKS.isTrue("the face is " + built + ", the document's " + told, built.equals(told));
    }

    private static void nothingElseIsSeen() {
        CHECKS.isTrue("the class isn't public and final", isPublic(INN.getModifiers())
            && Modifier.isFinal(INN.getModifiers()) && INN.getSuperclass() == Object.class);
        CHECKS.due("constructors", INN.getDeclaredConstructors().length, 1);
        CHECKS.due("its parameters", INN.getDeclaredConstructors()[0].getParameterCount(), 0);
        Set<String> constants = Set.of("NONE", "BAD", "STATE", "FULL", "NO");
        for (Field field : INN.getDeclaredFields()) {
            boolean hidden = Modifier.isPrivate(field.getModifiers());
            CHECKS.isTrue("a field that is seen: " + field, constants.contains(field.getName()) != hidden);
        }
        for (Method method : INN.getDeclaredMethods()) {
            boolean seen = isPublic(method.getModifiers());
            CHECKS.isTrue("a method that is half seen: " + method, seen || Modifier.isPrivate(method.getModifiers()));
        }
    }

    private static void classesInside() {
        Class<?>[] inside = INN.getDeclaredClasses();
        CHECKS.isTrue("classes: " + inside.length, inside.length < 12);
        Set<String> face = Arrays.stream(INN.getDeclaredMethods()).filter(m -> isPublic(m.getModifiers()))
            .map(Method::getName).collect(Collectors.toSet());
        List<Class<?>> all = new ArrayList<>(List.of(inside));
        all.add(INN);
        for (Class<?> one : all) {
            CHECKS.isTrue(one + " isn't static", one == INN || Modifier.isStatic(one.getModifiers()));
            CHECKS.isTrue(one + " is seen", one == INN || !isPublic(one.getModifiers()));
            long own = Arrays.stream(one.getDeclaredFields()).filter(f -> !Modifier.isStatic(f.getModifiers())).count();
            CHECKS.isTrue(one + " has " + own + " fields", own <= 20);
            for (Field field : one.getDeclaredFields()) {
                boolean bad = Modifier.isStatic(field.getModifiers()) && !Modifier.isFinal(field.getModifiers());
                CHECKS.isTrue("static, but not final: " + field, !bad);
            }
            for (Method method : one.getDeclaredMethods()) {
                CHECKS.isTrue("parameters of " + method, method.getParameterCount() <= 7);
                boolean again = face.contains(method.getName()) && !isPublic(method.getModifiers());
                CHECKS.isTrue("the name of a public one: " + method, !again);
            }
        }
    }

    private static List<String> source() throws IOException {
        return Files.readAllLines(Path.of("src/main/java/QuestionsInAnInn.java"));
    }

    private static void wordsOfTheSource() throws IOException {
        Pattern words = Pattern.compile("\\b(throw|throws|try|catch|synchronized|assert|package|native|volatile|var|"
            + "System\\.(?!arraycopy)\\w+|Exact|equals|hashCode|toString|Object)\\b|->|::|\\w+Exact\\b|@\\w+|\\.\\.\\.");
        for (String line : source()) {
            String code = line.replaceAll("//.*|/?\\*\\*? .*", "");
            CHECKS.isTrue("not of the language: " + line, !words.matcher(code).find());
            boolean brings = line.startsWith("import ") && !line.equals("import java.util.Arrays;");
            CHECKS.isTrue("not of the library: " + line, !brings);
        }
    }

    /** A method begins where a line ends in ") {" less deep than its class's methods' bodies, and ends with its "}". */
    private static void lengthOfMethods() throws IOException {
        String begun = null;
        int length = 0;
        for (String line : source()) {
            length++;
            String indent = line.substring(0, line.length() - line.stripLeading().length());
            boolean begins = line.endsWith(") {") && !line.strip().matches("(if|for|while|switch|\\}).*");
            if (begins && indent.length() <= 8) {
                begun = indent + "}";
                length = 1;
            } else if (line.equals(begun)) {
                CHECKS.isTrue("a method of " + length + " lines ends with " + line, length <= 60);
            }
        }
    }

    /** All calls of one run live in one room: what 512 calls of one method make is kept small. */
    private static void roomOfCalls() throws ReflectiveOperationException {
        com.sun.management.ThreadMXBean threads = (com.sun.management.ThreadMXBean) ManagementFactory.getThreadMXBean();
        long thread = Thread.currentThread().getId();
        QuestionsInAnInn inn = new QuestionsInAnInn();
        for (int p = 0; p < 7; p++) inn.come(10 * (p % 6) + p, p, p % 4 - 1);
        for (int q = 0; q < 8; q++) inn.question(q % 4, q);
        inn.film(0, 0);
        long most = 0;
        for (int rounds = 0; rounds < 2; rounds++) {
            long before = threads.getThreadAllocatedBytes(thread);
            for (int call = 0; call < 512; call++) {
                inn.odds(call, 30, 1, 0);
                inn.close(4, 0);
                inn.change(0);
                inn.cover(0);
                inn.depth(0, 0, 1);
                inn.laws(0, 0);
                inn.film(1, 1);
                inn.sheet(2, 2, 40);
                inn.copy(2, 0, 2, 1, 30);
                inn.image();
                inn.back();
                inn.feed(5, 1, 2, 3, 4, 5);
                inn.text();
            }
            most = threads.getThreadAllocatedBytes(thread) - before;
        }
        CHECKS.isTrue("512 times all dear calls make " + most + " bytes", most < 100000);
    }
}
