import java.io.IOException;
import java.lang.reflect.Constructor;
import java.lang.reflect.Field;
import java.lang.reflect.Method;
import java.lang.reflect.Modifier;
import java.nio.file.Files;
import java.nio.file.Path;
import java.util.Arrays;
import java.util.Set;
import java.util.TreeSet;

/** The face of the class: what the document lists, with its exceptions, and nothing else that is not private. */
final class FaceTest {
    private static final String BOUNDS = " IndexOutOfBoundsException";
    private static final String ARGUMENT = " IllegalArgumentException";
    private static final String STATE = " IllegalStateException";

    public static void main(String[] args) throws IOException {
        constants();
        methods();
        nothingElse();
        sourceKeepsToTheLanguage();
        Check.end();
    }

    private static void constants() {
        Check.same("FREE", 0, RuleCiphers.FREE);
        Check.same("CHOSEN", 1, RuleCiphers.CHOSEN);
        Check.same("KEYED", 2, RuleCiphers.KEYED);
        Check.same("SET", 3, RuleCiphers.SET);
        Check.same("NONE", -1, RuleCiphers.NONE);
    }

    private static void methods() {
        Set<String> due = new TreeSet<>(Arrays.asList(
                "void choose int int" + BOUNDS + ARGUMENT + STATE,
                "void key int long long" + BOUNDS + STATE,
                "void mode int int long" + BOUNDS + ARGUMENT + STATE,
                "void free int" + BOUNDS,
                "int stage int" + BOUNDS,
                "long block int boolean long" + BOUNDS + STATE,
                "int word int int" + BOUNDS + STATE,
                "void put int int" + BOUNDS,
                "int get int" + BOUNDS,
                "int feed int boolean int int" + BOUNDS + STATE + ARGUMENT,
                "void seek int long" + BOUNDS + STATE,
                "int take int int int" + BOUNDS + STATE,
                "long tag int" + BOUNDS + STATE));
        Set<String> got = new TreeSet<>();
        Set<String> names = new TreeSet<>();
        for (Method method : RuleCiphers.class.getDeclaredMethods()) {
            if (Modifier.isPublic(method.getModifiers())) {
                got.add(told(method));
                names.add(method.getName());
            }
        }
        Check.same("public methods", due.toString(), got.toString());
        for (Method method : RuleCiphers.class.getDeclaredMethods()) {
            boolean shadows = !Modifier.isPublic(method.getModifiers()) && names.contains(method.getName());
            Check.same("a private method with a public name: " + method, 0, shadows ? 1 : 0);
        }
    }

    private static String told(Method method) {
        StringBuilder text = new StringBuilder(method.getReturnType().getSimpleName());
        text.append(' ').append(method.getName());
        for (Class<?> type : method.getParameterTypes()) {
            text.append(' ').append(type.getSimpleName());
        }
        for (Class<?> type : method.getExceptionTypes()) {
            text.append(' ').append(type.getSimpleName());
        }
        return text.toString();
    }

    private static void nothingElse() {
        Check.same("the class is public and final", Modifier.PUBLIC | Modifier.FINAL,
                RuleCiphers.class.getModifiers());
        Set<String> open = new TreeSet<>();
        for (Field field : RuleCiphers.class.getDeclaredFields()) {
            if (!Modifier.isPrivate(field.getModifiers())) {
                open.add(Modifier.toString(field.getModifiers()) + " " + field.getName());
            }
        }
        String constant = "public static final ";
        Check.same("fields that are not private", "[" + constant + "CHOSEN, " + constant + "FREE, " + constant
                + "KEYED, " + constant + "NONE, " + constant + "SET]", open.toString());
        for (Method method : RuleCiphers.class.getDeclaredMethods()) {
            int how = method.getModifiers();
            Check.same("neither public nor private: " + method, 1,
                    Modifier.isPublic(how) || Modifier.isPrivate(how) ? 1 : 0);
        }
        Constructor<?>[] constructors = RuleCiphers.class.getDeclaredConstructors();
        Check.same("constructors", 1, constructors.length);
        Check.same("the constructor's parameters", 0, constructors[0].getParameterCount());
        Check.same("the constructor is public", Modifier.PUBLIC, constructors[0].getModifiers());
    }

    /** The rules of ../shared/LANGUAGE.md that a look at the source's lines can tell. */
    private static void sourceKeepsToTheLanguage() throws IOException {
        Set<String> allowed = Set.of("import java.util.ArrayList;", "import java.util.List;",
                "import java.util.Arrays;", "import java.util.Iterator;", "import java.util.NoSuchElementException;");
        for (String line : Files.readAllLines(Path.of("src/main/java/RuleCiphers.java"))) {
            boolean outside = line.startsWith("import ") && !allowed.contains(line);
            Check.same("outside the language: " + line, 0, outside || line.startsWith("package ") ? 1 : 0);
            Check.same("a method reference: " + line, 0, line.contains("::") ? 1 : 0);
        }
    }
}
