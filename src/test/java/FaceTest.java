import java.io.IOException;
import java.lang.reflect.Constructor;
import java.lang.reflect.Field;
import java.lang.reflect.Method;
import java.lang.reflect.Modifier;
import java.nio.file.Files;
import java.nio.file.Path;
import java.util.Arrays;
import java.util.Set;
import java.util.TreeSet;
import java.util.regex.Matcher;
import java.util.regex.Pattern;

/** The public face of the class, and the rules of the language that can be read off it or its source. */
public final class FaceTest {
    private static final String[] FACE = {
        "sine(int)", "latitude(int)", "corrections(int)", "correct(int,int)", "copy(int,int,int)", "sun(int,int,int)",
        "dial(int,int,int,int,int)", "house(int,int,int,long,int)", "drop(int)", "move(int,int,int)", "face(int,int)",
        "tilt(int,int)", "left(int,int,int)", "holds(int)", "isOf(int,int)", "about(int,int)", "undo()",
        "state(int,int,int)", "hides(int,int,int)", "end(int,int,int,int)", "line(int,int,int)",
        "read(int,int,int,int)", "late(int,int,int)", "stretches(int,int)", "stretch(int,int,int,int)",
        "sight(int,int,int,int)", "forget()", "found(int)", "turn(int)", "count(int)"};
    private static final int METHOD_LINES = 60, PARAMETERS = 7, CLASSES = 12, FIELDS = 20;

    public static void main(String[] args) throws IOException {
        Due due = new Due();
        methods(due);
        constants(due);
        shape(due);
        for (Class<?> inner : DialGarden.class.getDeclaredClasses()) innerClass(due, inner);
        source(due, Files.readString(Path.of(args.length > 0 ? args[0] : "src/main/java/DialGarden.java")));
        due.end("FaceTest");
    }

    private static String signature(Method method) {
        StringBuilder text = new StringBuilder(method.getName()).append('(');
        for (Class<?> type : method.getParameterTypes()) {
            if (text.charAt(text.length() - 1) != '(') text.append(',');
            text.append(type.getName());
        }
        return text.append(')').toString();
    }

    private static void methods(Due due) {
        Set<String> publicOnes = new TreeSet<>(), publicNames = new TreeSet<>(), others = new TreeSet<>();
        for (Method method : DialGarden.class.getDeclaredMethods()) {
            due.holds(method + " takes few parameters", method.getParameterCount() <= PARAMETERS);
            if (!Modifier.isPublic(method.getModifiers())) {
                due.holds(method + " is private", Modifier.isPrivate(method.getModifiers()));
                others.add(method.getName());
                continue;
            }
            publicOnes.add(signature(method));
            publicNames.add(method.getName());
            due.holds(method + " answers an int", method.getReturnType() == int.class);
            due.holds(method + " is of an object", !Modifier.isStatic(method.getModifiers()));
        }
        due.holds("the public methods are those of the document: " + publicOnes,
            publicOnes.equals(new TreeSet<>(Arrays.asList(FACE))));
        others.retainAll(publicNames);
        due.holds("private methods with the name of a public one: " + others, others.isEmpty());
    }

    private static void constants(Due due) {
        due.is("BAD", DialGarden.BAD, -2000000001L);
        due.is("NO", DialGarden.NO, -2000000002L);
        due.is("FULL", DialGarden.FULL, -2000000003L);
        due.is("NONE", DialGarden.NONE, -2000000005L);
        Set<String> seen = new TreeSet<>();
        int ofObject = 0;
        for (Field field : DialGarden.class.getDeclaredFields()) {
            int is = field.getModifiers();
            if (Modifier.isStatic(is)) due.holds(field + " is final", Modifier.isFinal(is));
            else ofObject++;
            if (Modifier.isPublic(is)) seen.add(field.getName());
            else due.holds(field + " is private", Modifier.isPrivate(is));
        }
        due.holds("the public constants are those of the document", seen.equals(Set.of("BAD", "NO", "FULL", "NONE")));
        due.holds("the class has few fields", ofObject <= FIELDS);
    }

    private static void shape(Due due) {
        int is = DialGarden.class.getModifiers();
        due.holds("the class is public and final", Modifier.isPublic(is) && Modifier.isFinal(is));
        Constructor<?>[] all = DialGarden.class.getDeclaredConstructors();
        due.is("constructors", all.length, 1);
        due.holds("it is public", Modifier.isPublic(all[0].getModifiers()));
        due.is("its parameters", all[0].getParameterCount(), 0);
        due.holds("few classes", DialGarden.class.getDeclaredClasses().length + 1 <= CLASSES);
    }

    private static void innerClass(Due due, Class<?> inner) {
        int is = inner.getModifiers();
        due.holds(inner + " is static", Modifier.isStatic(is));
        due.holds(inner + " is not seen from outside", !Modifier.isPublic(is) && !Modifier.isProtected(is));
        int ofObject = 0;
        for (Field field : inner.getDeclaredFields()) {
            if (!Modifier.isStatic(field.getModifiers())) ofObject++;
            else due.holds(field + " is final", Modifier.isFinal(field.getModifiers()));
        }
        due.holds(inner + " has few fields", ofObject <= FIELDS);
        for (Constructor<?> one : inner.getDeclaredConstructors()) {
            due.holds(one + " takes few parameters", one.getParameterCount() <= PARAMETERS);
        }
        for (Method method : inner.getDeclaredMethods()) {
            due.holds(method + " takes few parameters", method.getParameterCount() <= PARAMETERS);
        }
    }

    private static void source(Due due, String text) {
        String code = text.replaceAll("(?s)/\\*.*?\\*/", "").replaceAll("//[^\n]*", "")
            .replaceAll("\"(\\\\.|[^\"\\\\])*\"", "\"\"");
        Matcher forbidden = Pattern.compile(
            "\\b(throws?|try|catch|finally|synchronized|assert|package)\\b|::|\\b\\w+Exact\\b").matcher(code);
        if (forbidden.find()) due.holds("the language leaves out: " + forbidden.group(), false);
        // An arrow of a switch is fine, one of a lambda is not.
        for (String line : code.split("\n")) {
            due.holds("a lambda: " + line, !line.contains("->") || line.strip().matches("(case|default)\\b.*"));
        }
        allAreOf(due, code, "import ([\\w.]+);",
            Set.of("java.util.Arrays", "java.util.ArrayList", "java.util.List", "java.util.Iterator"));
        allAreOf(due, code, "\\bSystem\\.(\\w+)", Set.of("arraycopy"));
        allAreOf(due, code, "\\bArrays\\.(\\w+)", Set.of("copyOf", "copyOfRange", "fill"));
        nothingIsHandedOut(due, code);
        methodLengths(due, text);
    }

    /** Field initialisers are of the constructor, which may not give one part of its object to another one. */
    private static void nothingIsHandedOut(Due due, String code) {
        Matcher handing = Pattern.compile(
            "(?m)^( {4}| {8})private [^;{}()]*= new \\w+\\((this|[a-z]\\w*)\\b[^;]*;").matcher(code);
        while (handing.find()) due.holds("a constructor hands out " + handing.group(2), false);
    }

    private static void allAreOf(Due due, String code, String form, Set<String> allowed) {
        Matcher found = Pattern.compile(form).matcher(code);
        while (found.find()) due.holds(found.group(), allowed.contains(found.group(1)));
    }

    /** A method starts at a line that ends with ") {" and is set in by one or two steps. */
    private static void methodLengths(Due due, String text) {
        String[] lines = text.split("\n");
        Pattern head = Pattern.compile("( {4}| {8})[a-zA-Z][^;=]*\\) \\{");
        for (int i = 0; i < lines.length; i++) {
            Matcher start = head.matcher(lines[i]);
            if (!start.matches()) continue;
            int last = i;
            while (last < lines.length && !lines[last].equals(start.group(1) + "}")) last++;
            due.holds("the method of line " + (i + 1) + " is short", last - i < METHOD_LINES);
        }
    }
}
