import java.io.IOException;
import java.lang.reflect.Constructor;
import java.lang.reflect.Field;
import java.lang.reflect.Method;
import java.lang.reflect.Modifier;
import java.nio.charset.StandardCharsets;
import java.nio.file.Files;
import java.nio.file.Path;
import java.util.Set;
import java.util.TreeSet;
import java.util.regex.Matcher;
import java.util.regex.Pattern;

/** The public face, and those rules of LANGUAGE.md that can be read off the class and its text. */
final class FaceTest {
    private static final Due DUE = new Due("FaceTest");
    private static final Set<String> METHODS = new TreeSet<>(Set.of(
        "int letter(int)", "int blank()", "int fault()", "int hills()", "int clan(int,int)", "int as(int,int)",
        "int rate(int)", "int wed(int,int)", "int wedding(int,int)", "int divorce(int)", "int year()",
        "int settled()", "int plan(int,int)", "int dream()", "int order(int)", "int high()", "int tell(int,int)",
        "int forget()", "int which()", "int ask()", "int ages(int,int,int)", "int image()", "int restore()",
        "int count(int)", "long digest()"));

    public static void main(String[] args) throws IOException {
        face();
        constants();
        fields();
        classesInside();
        sizes(CowsOwed.class);
        for (Class<?> one : CowsOwed.class.getDeclaredClasses()) {
            sizes(one);
        }
        words(Files.readString(Path.of("src/main/java/CowsOwed.java"), StandardCharsets.US_ASCII));
        DUE.end();
    }

    private static void face() {
        int kind = CowsOwed.class.getModifiers();
        DUE.holds("the class is public and final", Modifier.isPublic(kind) && Modifier.isFinal(kind));
        Set<String> open = new TreeSet<>();
        Set<String> closed = new TreeSet<>();
        for (Method method : CowsOwed.class.getDeclaredMethods()) {
            if (method.isSynthetic()) {
                continue;
            }
            if (Modifier.isPrivate(method.getModifiers())) {
                closed.add(method.getName());
            } else {
                open.add(told(method));
                DUE.holds(told(method) + " is public, not static", method.getModifiers() == Modifier.PUBLIC);
            }
        }
        DUE.holds("the methods are " + METHODS + ", not " + open, open.equals(METHODS));
        for (String name : closed) {
            DUE.holds("no private method is called " + name,
                METHODS.stream().noneMatch(method -> method.contains(" " + name + "(")));
        }
        Constructor<?>[] made = CowsOwed.class.getDeclaredConstructors();
        DUE.is("constructors", made.length, 1);
        DUE.holds("it is public", Modifier.isPublic(made[0].getModifiers()));
        DUE.is("its parameters", made[0].getParameterCount(), 0);
    }

    private static String told(Method method) {
        StringBuilder text = new StringBuilder(method.getReturnType() + " " + method.getName() + "(");
        for (Class<?> type : method.getParameterTypes()) {
            text.append(text.charAt(text.length() - 1) == '(' ? "" : ",").append(type);
        }
        return text.append(')').toString();
    }

    private static void constants() {
        DUE.is("NONE", CowsOwed.NONE, -1);
        DUE.is("UNKNOWN", CowsOwed.UNKNOWN, -101);
        DUE.is("OUTSIDE", CowsOwed.OUTSIDE, -102);
        DUE.is("STATE", CowsOwed.STATE, -103);
        DUE.is("FULL", CowsOwed.FULL, -104);
    }

    private static void fields() {
        Set<String> open = new TreeSet<>();
        for (Field field : CowsOwed.class.getDeclaredFields()) {
            int kind = field.getModifiers();
            if (!Modifier.isPrivate(kind)) {
                open.add(field.getName());
            }
            DUE.holds(field + " is final, if it is static", !Modifier.isStatic(kind) || Modifier.isFinal(kind));
        }
        DUE.holds("the constants are not " + open,
            open.equals(Set.of("NONE", "UNKNOWN", "OUTSIDE", "STATE", "FULL")));
    }

    private static void classesInside() {
        Class<?>[] inside = CowsOwed.class.getDeclaredClasses();
        DUE.holds("at most twelve classes", inside.length + 1 <= 12);
        for (Class<?> one : inside) {
            int kind = one.getModifiers();
            DUE.holds(one + " is static", Modifier.isStatic(kind));
            DUE.holds(one + " is not seen outside", !Modifier.isPublic(kind) && !Modifier.isProtected(kind));
            for (Field field : one.getDeclaredFields()) {
                int how = field.getModifiers();
                DUE.holds(field + " is final, if it is static", !Modifier.isStatic(how) || Modifier.isFinal(how));
            }
        }
    }

    private static void sizes(Class<?> one) {
        int held = 0;
        for (Field field : one.getDeclaredFields()) {
            held += Modifier.isStatic(field.getModifiers()) ? 0 : 1;
        }
        DUE.holds(one + " has at most twenty fields", held <= 20);
        for (Method method : one.getDeclaredMethods()) {
            DUE.holds(method + " takes at most seven", method.getParameterCount() <= 7);
        }
        for (Constructor<?> made : one.getDeclaredConstructors()) {
            DUE.holds(made + " takes at most seven", made.getParameterCount() <= 7);
        }
    }

    /** Comments and texts may say what they like; the code may not. */
    private static void words(String source) {
        String code = source.replaceAll("(?s)/\\*.*?\\*/", " ").replaceAll("//[^\n]*", " ")
            .replaceAll("\"[^\"\n]*\"", "\"\"");
        Matcher bad = Pattern.compile("\\b(throw|throws|try|catch|finally|synchronized|assert|import|package|native"
            + "|volatile|Random|Object|Exception|Error|hashCode|toString|float|double)\\b|->|::|@").matcher(code);
        while (bad.find()) {
            DUE.holds("the code has no " + bad.group(), false);
        }
        Matcher library = Pattern.compile("\\b(System|Math|Arrays|Integer|Long)\\.(\\w+)").matcher(code);
        while (library.find()) {
            DUE.holds("the library has " + library.group(),
                Set.of("System.arraycopy", "Math.max", "Math.min").contains(library.group()));
        }
    }
}
