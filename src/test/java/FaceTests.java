import java.io.IOException;
import java.lang.reflect.Field;
import java.lang.reflect.Method;
import java.lang.reflect.Modifier;
import java.nio.file.Files;
import java.nio.file.Path;
import java.util.Arrays;
import java.util.List;
import java.util.Set;
import java.util.TreeSet;
import java.util.regex.Matcher;
import java.util.regex.Pattern;
import java.util.stream.Collectors;

/** The public face of the document, and what of LANGUAGE.md can be seen by reflection or by the words of the source. */
public final class FaceTests {
    private static final Check check = new Check("FaceTests");
    private static final String SOURCE = "src/main/java/LivingNumbers.java";

    private static final Set<String> FACE = Set.of(
        "int roll(int,int,int,int)", "int ofOne(int,int)", "int lives(int,int,int)", "int word(int,int,int)",
        "int sayable(int,int,int)", "int means(int,int,int,int,int,int)", "int say(int,int,int,int)",
        "int turned(int,int,int,int,int,int,int)", "int child(int,int,int,int,int,int,int,int)",
        "int both(int,int,int)", "int written(int,int,int,int,int,int)", "int lost(int,int,int,int)",
        "int back(int,int,int,int,int)", "long told(int,int,int,int)", "int sheet(int,int,int)", "int lose(int)",
        "int put(int,int,int)", "long cell(int,int,int)", "int copy(int,int,int,int,int)", "int tell(int)",
        "int mourn(int)", "int as(int,int)", "int trace()", "int fault()", "int many()");

    public static void main(String[] args) throws IOException {
        theFace();
        theConstants();
        theClassesInside();
        staticState();
        wordsOfTheSource(Files.readString(Path.of(SOURCE)));
        check.close();
    }

    private static void same(String what, Object got, Object want) {
        if (!got.equals(want)) {
            System.out.println(what + ": " + got + ", due is " + want);
        }
        check.holds(what, got.equals(want));
    }

    private static void theFace() {
        Class<?> face = LivingNumbers.class;
        same("the class", Modifier.toString(face.getModifiers()), "public final");
        same("constructors", face.getDeclaredConstructors().length, 1);
        same("the constructor", face.getConstructors()[0].toString(), "public LivingNumbers()");
        Set<String> methods = new TreeSet<>();
        Set<String> hidden = new TreeSet<>();
        for (Method method : face.getDeclaredMethods()) {
            if (Modifier.isPrivate(method.getModifiers())) {
                hidden.add(method.getName());
                continue;
            }
            same("modifiers of " + method.getName(), Modifier.toString(method.getModifiers()), "public");
            String types = Arrays.stream(method.getParameterTypes()).map(Class::getName)
                .collect(Collectors.joining(","));
            methods.add(method.getReturnType() + " " + method.getName() + "(" + types + ")");
        }
        same("the methods", methods, new TreeSet<>(FACE));
        for (String method : methods) {
            check.holds("no private method bears the name of " + method,
                !hidden.contains(method.substring(method.indexOf(' ') + 1, method.indexOf('('))));
        }
    }

    private static void theConstants() {
        check.due("UNKNOWN", LivingNumbers.UNKNOWN, -1);
        check.due("OUTSIDE", LivingNumbers.OUTSIDE, -2);
        check.due("NONE", LivingNumbers.NONE, -9);
        check.due("LOST", LivingNumbers.LOST, Long.MIN_VALUE);
        Set<String> seen = new TreeSet<>();
        for (Field field : LivingNumbers.class.getDeclaredFields()) {
            if (!Modifier.isPrivate(field.getModifiers())) {
                seen.add(field.toString());
            }
        }
        same("the constants", seen, new TreeSet<>(Set.of("public static final int LivingNumbers.UNKNOWN",
            "public static final int LivingNumbers.OUTSIDE", "public static final int LivingNumbers.NONE",
            "public static final long LivingNumbers.LOST")));
    }

    private static void theClassesInside() {
        Class<?>[] inside = LivingNumbers.class.getDeclaredClasses();
        check.holds("at most twelve classes", inside.length < 12);
        Set<String> names = FACE.stream().map(m -> m.substring(m.indexOf(' ') + 1, m.indexOf('(')))
            .collect(Collectors.toSet());
        for (Class<?> one : inside) {
            int modifiers = one.getModifiers();
            check.holds(one + " is static", Modifier.isStatic(modifiers));
            check.holds(one + " is hidden", !Modifier.isPublic(modifiers) && !Modifier.isProtected(modifiers));
            for (Method method : one.getDeclaredMethods()) {
                check.holds(one + " has no " + method.getName(), !names.contains(method.getName()));
                check.holds(method + " takes at most seven", method.getParameterCount() <= 7);
            }
            check.holds(one + " has no class inside", one.getDeclaredClasses().length == 0);
        }
    }

    private static void staticState() {
        for (Class<?> one : LivingNumbers.class.getNestMembers()) {
            for (Field field : one.getDeclaredFields()) {
                if (Modifier.isStatic(field.getModifiers())) {
                    check.holds(field + " is final", Modifier.isFinal(field.getModifiers()));
                    check.holds(field + " is plain", field.getType().isPrimitive());
                }
            }
        }
    }

    private static void wordsOfTheSource(String source) {
        String code = source.replaceAll("(?s)/\\*.*?\\*/", "").replaceAll("//[^\n]*", "");
        List<String> never = List.of("throw", "try", "catch", "synchronized", "assert", "import", "package", "hashCode",
            "equals", "toString", "getClass", "while", "Object", "static \\{", "::", "->", "@", "\"");
        for (String word : never) {
            String pattern = word.matches("\\w+") ? "\\b" + word + "\\b" : word;
            check.holds("no " + word + " in the source", !Pattern.compile(pattern).matcher(code).find());
        }
        Set<String> library = Set.of("Long.MIN_VALUE", "Math.min", "Math.max", "System.arraycopy");
        Matcher calls = Pattern.compile("\\b[A-Z][a-z]\\w*\\.\\w+").matcher(code);
        while (calls.find()) {
            check.holds("the library has " + calls.group(), library.contains(calls.group()));
        }
    }
}
