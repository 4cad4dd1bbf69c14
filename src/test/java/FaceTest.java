import java.io.IOException;
import java.lang.reflect.Constructor;
import java.lang.reflect.Field;
import java.lang.reflect.Method;
import java.lang.reflect.Modifier;
import java.nio.file.Files;
import java.nio.file.Path;
import java.util.Arrays;
import java.util.Set;
import java.util.TreeSet;

/** The public face, and the rules of LANGUAGE.md that can be seen from outside. */
public final class FaceTest {
    private static final Set<String> FACE = new TreeSet<>(Arrays.asList(
        "boolean put(long, int)", "boolean low(long, int)", "boolean compact(long)", "int read(boolean)",
        "int place()", "int byteOf(int)", "long head(int)", "long look(int, int)", "long input(int, int, int)",
        "long output(int, int, int)", "long name(int, int)", "boolean isDoubtful()"));

    public static void main(String[] args) throws IOException {
        checkClass();
        checkMethods();
        checkFields();
        checkSource();
        Check.end();
    }

    private static void checkClass() {
        int how = WireDesk.class.getModifiers();
        Check.due("public and final", Modifier.isPublic(how) && Modifier.isFinal(how), true);
        Constructor<?>[] all = WireDesk.class.getDeclaredConstructors();
        Check.due("constructors", all.length, 1);
        Check.due("public constructor without parameters",
            Modifier.isPublic(all[0].getModifiers()) && all[0].getParameterCount() == 0, true);
    }

    private static void checkMethods() {
        Set<String> found = new TreeSet<>();
        Set<String> publicNames = new TreeSet<>();
        for (Method method : WireDesk.class.getDeclaredMethods()) {
            if (Modifier.isPublic(method.getModifiers())) {
                found.add(told(method));
                publicNames.add(method.getName());
            }
        }
        Check.due("the face is " + found, found.equals(FACE), true);
        for (Method method : WireDesk.class.getDeclaredMethods()) {
            if (!Modifier.isPublic(method.getModifiers()) && !method.isSynthetic()) {
                Check.due(told(method) + " is private", Modifier.isPrivate(method.getModifiers()), true);
                Check.due(told(method) + " has a public name", publicNames.contains(method.getName()), false);
            }
        }
    }

    private static String told(Method method) {
        StringBuilder parameters = new StringBuilder();
        for (Class<?> type : method.getParameterTypes()) {
            parameters.append(parameters.length() == 0 ? "" : ", ").append(type.getName());
        }
        return method.getReturnType().getName() + " " + method.getName() + "(" + parameters + ")";
    }

    private static void checkFields() {
        for (Field field : WireDesk.class.getDeclaredFields()) {
            int how = field.getModifiers();
            if (field.isSynthetic()) {
                continue;
            }
            Check.due(field.getName() + " is private", Modifier.isPrivate(how), true);
            Check.due(field.getName() + " is not static or final", !Modifier.isStatic(how) || Modifier.isFinal(how), true);
        }
    }

    /** Only what LANGUAGE.md rules out, whether the class as it stands uses the rest or not. */
    private static void checkSource() throws IOException {
        String source = Files.readString(Path.of("src/main/java/WireDesk.java"));
        String code = source.replaceAll("(?s)/\\*.*?\\*/", " ").replaceAll("//[^\n]*", " ");
        for (String word : new String[] {"package", "finally", "synchronized", "assert", "protected", "Thread", "Random",
            "native", "volatile", "NaN", "Throwable", "Error", "Exception", "NullPointerException",
            "ArrayIndexOutOfBoundsException", "ClassCastException", "NegativeArraySizeException", "ArrayStoreException"}) {
            Check.due("the word " + word + " in the code", code.matches("(?s).*\\b" + word + "\\b.*"), false);
        }
        Check.due("a lambda or method reference", code.contains("->") || code.contains("::"), false);
        String rest = code.replaceAll("java\\.util\\.(ArrayList|List|Arrays|Iterator|NoSuchElementException|\\*)\\b?", " ")
            .replace("System.arraycopy", " ");
        Check.due("an import of more than is allowed", rest.matches("(?s).*\\bimport\\s+[a-z].*"), false);
        for (String word : new String[] {"System", "java", "javax"}) {
            Check.due("the word " + word + " for more than is allowed", rest.matches("(?s).*\\b" + word + "\\b.*"), false);
        }
    }
}
