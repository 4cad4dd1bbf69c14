import java.io.IOException;
import java.lang.reflect.Constructor;
import java.lang.reflect.Field;
import java.lang.reflect.Method;
import java.lang.reflect.Modifier;
import java.nio.file.Files;
import java.nio.file.Path;
import java.util.Set;
import java.util.TreeSet;

/** The public face, and the rules of LANGUAGE.md that can be seen from outside. */
public final class FaceTest {
    public static void main(String[] args) throws IOException {
        checkClass();
        checkConstructor();
        checkMethods();
        Check.sentence("The public face", "public final class WireDesk {", "no other member, and the rules of LANGUAGE.md");
        noOtherMethods();
        checkFields();
        checkClasses();
        checkSource();
        Check.end();
    }

    private static void checkClass() {
        Check.sentence("The public face", "public final class WireDesk {");
        int how = WireDesk.class.getModifiers();
        Check.due("public and final", Modifier.isPublic(how) && Modifier.isFinal(how), true);
        Check.due("in no package", WireDesk.class.getPackageName().isEmpty(), true);
        Check.due("with nothing above it", WireDesk.class.getSuperclass() == Object.class, true);
    }

    private static void checkConstructor() {
        Check.sentence("The public face", "public WireDesk();");
        Constructor<?>[] all = WireDesk.class.getDeclaredConstructors();
        Check.due("constructors", all.length, 1);
        Check.due("public constructor without parameters",
            Modifier.isPublic(all[0].getModifiers()) && all[0].getParameterCount() == 0, true);
        Check.due("its exceptions", all[0].getExceptionTypes().length, 0);
    }

    private static void checkMethods() {
        Check.sentence("The public face", "public boolean put(long v, int n);");
        isThere("boolean put(long, int)");
        Check.sentence("The public face", "public boolean low(long v, int n);");
        isThere("boolean low(long, int)");
        Check.sentence("The public face", "public boolean compact(long v);");
        isThere("boolean compact(long)");
        Check.sentence("The public face", "public int read(boolean block);");
        isThere("int read(boolean)");
        Check.sentence("The public face", "public int place();");
        isThere("int place()");
        Check.sentence("The public face", "public int byteOf(int i);");
        isThere("int byteOf(int)");
        Check.sentence("The public face", "public long head(int what);");
        isThere("long head(int)");
        Check.sentence("The public face", "public long look(int t, int what);");
        isThere("long look(int, int)");
        Check.sentence("The public face", "public long input(int t, int i, int what);");
        isThere("long input(int, int, int)");
        Check.sentence("The public face", "public long output(int t, int i, int what);");
        isThere("long output(int, int, int)");
        Check.sentence("The public face", "public long name(int t, int k);");
        isThere("long name(int, int)");
        Check.sentence("The public face", "public boolean isDoubtful();");
        isThere("boolean isDoubtful()");
    }

    private static void isThere(String want) {
        int found = 0;
        for (Method method : WireDesk.class.getDeclaredMethods()) {
            if (told(method).equals(want)) {
                found++;
                Check.due(want + " is public", Modifier.isPublic(method.getModifiers()), true);
                Check.due(want + " is static", Modifier.isStatic(method.getModifiers()), false);
                Check.due("exceptions of " + want, method.getExceptionTypes().length, 0);
            }
        }
        Check.due(want, found, 1);
    }

    private static void noOtherMethods() {
        Set<String> publicNames = new TreeSet<>();
        for (Method method : WireDesk.class.getDeclaredMethods()) {
            if (Modifier.isPublic(method.getModifiers())) {
                publicNames.add(method.getName());
            }
        }
        Check.due("public methods", publicNames.size(), 12);
        int count = 0;
        for (Method method : WireDesk.class.getDeclaredMethods()) {
            if (Modifier.isPublic(method.getModifiers())) {
                count++;
            } else if (!method.isSynthetic()) {
                Check.due(told(method) + " is private", Modifier.isPrivate(method.getModifiers()), true);
                Check.due(told(method) + " has a public name", publicNames.contains(method.getName()), false);
            }
        }
        Check.due("public methods, also those with one name", count, 12);
    }

    private static void checkClasses() {
        for (Class<?> inside : WireDesk.class.getDeclaredClasses()) {
            int how = inside.getModifiers();
            Check.due(inside.getName() + " is public or protected", Modifier.isPublic(how) || Modifier.isProtected(how), false);
        }
    }

    private static String told(Method method) {
        StringBuilder parameters = new StringBuilder();
        for (Class<?> type : method.getParameterTypes()) {
            parameters.append(parameters.length() == 0 ? "" : ", ").append(type.getName());
        }
        return method.getReturnType().getName() + " " + method.getName() + "(" + parameters + ")";
    }

    private static void checkFields() {
        for (Field field : WireDesk.class.getDeclaredFields()) {
            int how = field.getModifiers();
            if (field.isSynthetic()) {
                continue;
            }
            Check.due(field.getName() + " is private", Modifier.isPrivate(how), true);
            Check.due(field.getName() + " is not static or final", !Modifier.isStatic(how) || Modifier.isFinal(how), true);
        }
    }

    /** Only what LANGUAGE.md rules out, whether the class as it stands uses the rest or not. */
    private static void checkSource() throws IOException {
        String source = Files.readString(Path.of("src/main/java/WireDesk.java"));
        String code = source.replaceAll("(?s)/\\*.*?\\*/", " ").replaceAll("//[^\n]*", " ");
        for (String word : new String[] {"package", "finally", "synchronized", "assert", "protected", "Thread", "Random",
            "native", "volatile", "NaN", "Throwable", "Error", "Exception", "NullPointerException",
            "ArrayIndexOutOfBoundsException", "ClassCastException", "NegativeArraySizeException", "ArrayStoreException"}) {
            Check.due("the word " + word + " in the code", code.matches("(?s).*\\b" + word + "\\b.*"), false);
        }
        Check.due("a lambda or method reference", code.contains("->") || code.contains("::"), false);
        String rest = code.replaceAll("java\\.util\\.(ArrayList|List|Arrays|Iterator|NoSuchElementException|\\*)\\b?", " ")
            .replace("System.arraycopy", " ");
        Check.due("an import of more than is allowed", rest.matches("(?s).*\\bimport\\s+[a-z].*"), false);
        for (String word : new String[] {"System", "java", "javax"}) {
            Check.due("the word " + word + " for more than is allowed", rest.matches("(?s).*\\b" + word + "\\b.*"), false);
        }
    }
}
