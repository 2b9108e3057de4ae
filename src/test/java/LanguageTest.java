import java.io.IOException;
import java.lang.reflect.Field;
import java.lang.reflect.Member;
import java.lang.reflect.Method;
import java.lang.reflect.Modifier;
import java.nio.file.Files;
import java.nio.file.Path;
import java.util.Set;
import java.util.TreeSet;
import java.util.regex.Matcher;
import java.util.regex.Pattern;

/** The public face, and those rules of LANGUAGE.md that can be seen from outside or by words. */
public final class LanguageTest {
    private static final String SOURCE = "src/main/java/ThreadWinder.java";
    private static final int MOST_CLASSES = 12;
    private static final int MOST_FIELDS = 20;
    private static final int MOST_PARAMETERS = 7;

    private static final Due due = new Due();

    public static void main(String[] args) throws IOException {
        face();
        constants();
        classes();
        words(withoutComments(Files.readString(Path.of(SOURCE))));
        due.end();
    }

    private static void face() {
        due.about("the public face");
        Set<String> want = Set.of("int set(int,int)", "int wind(int)", "int knot()", "int cone(int)",
            "int doff()", "int type(char)", "int clearText()", "int perform()", "int stopped()",
            "int undo()", "int keep()", "int restore()", "int place(int,int)", "int wrong()",
            "int breaksIn()", "int ifTraverse(int,int,int)", "int bestTraverse(int)",
            "int period(int)", "int count(int)");
        Set<String> open = new TreeSet<>();
        for (Method method : ThreadWinder.class.getDeclaredMethods()) {
            if (!Modifier.isPrivate(method.getModifiers())) {
                due.is("modifiers of " + method.getName(), method.getModifiers(), Modifier.PUBLIC);
                open.add(signature(method));
            }
        }
        due.holds("the methods are " + open, open.equals(want));
        int modifiers = ThreadWinder.class.getModifiers();
        due.is("modifiers of the class", modifiers, Modifier.PUBLIC | Modifier.FINAL);
        due.is("constructors", ThreadWinder.class.getDeclaredConstructors().length, 1);
        due.is("public ones", ThreadWinder.class.getConstructors().length, 1);
        due.is("package", ThreadWinder.class.getPackageName().length(), 0);
    }

    private static String signature(Method method) {
        StringBuilder parameters = new StringBuilder();
        for (Class<?> type : method.getParameterTypes()) {
            parameters.append(parameters.length() == 0 ? "" : ",").append(type.getSimpleName());
        }
        return method.getReturnType().getSimpleName() + " " + method.getName() + "(" + parameters + ")";
    }

    private static void constants() {
        due.about("the constants");
        due.is("UNKNOWN", ThreadWinder.UNKNOWN, -1);
        due.is("BAD_VALUE", ThreadWinder.BAD_VALUE, -2);
        due.is("FULL", ThreadWinder.FULL, -3);
        due.is("NOT_POSSIBLE", ThreadWinder.NOT_POSSIBLE, -4);
        due.is("NONE", ThreadWinder.NONE, -5);
        int open = 0;
        for (Field field : ThreadWinder.class.getDeclaredFields()) {
            open += Modifier.isPrivate(field.getModifiers()) ? 0 : 1;
        }
        due.is("fields that are not private", open, 5);
    }

    private static void classes() {
        due.about("the classes");
        Set<String> open = new TreeSet<>();
        for (Method method : ThreadWinder.class.getMethods()) {
            open.add(method.getName());
        }
        oneClass(ThreadWinder.class, open);
        Class<?>[] inside = ThreadWinder.class.getDeclaredClasses();
        due.holds("some twelve classes at most", inside.length < MOST_CLASSES);
        for (Class<?> type : inside) {
            int modifiers = type.getModifiers();
            due.holds(type + " is static", Modifier.isStatic(modifiers));
            due.holds(type + " is not open",
                !Modifier.isPublic(modifiers) && !Modifier.isProtected(modifiers));
            oneClass(type, open);
        }
    }

    private static void oneClass(Class<?> type, Set<String> open) {
        int fields = 0;
        for (Field field : type.getDeclaredFields()) {
            boolean ofClass = Modifier.isStatic(field.getModifiers());
            fields += ofClass ? 0 : 1;
            due.holds(field + " is final", !ofClass || Modifier.isFinal(field.getModifiers()));
        }
        due.holds(type + " has some twenty fields at most", fields <= MOST_FIELDS);
        for (Method method : type.getDeclaredMethods()) {
            due.holds(method + " has seven parameters at most",
                method.getParameterCount() <= MOST_PARAMETERS);
            due.holds(method + " bears no public name",
                isOpen(method) || !open.contains(method.getName()));
        }
    }

    private static boolean isOpen(Member member) {
        return Modifier.isPublic(member.getModifiers());
    }

    private static String withoutComments(String source) {
        due.about("the source");
        boolean plain = true;
        for (int i = 0; i < source.length(); i++) {
            plain &= source.charAt(i) >= 1 && source.charAt(i) <= 127;
        }
        due.holds("signs are 1 to 127", plain);
        return source.replaceAll("(?s)/\\*.*?\\*/", "").replaceAll("//[^\n]*", "");
    }

    private static void words(String code) {
        due.about("the words");
        String[] banned = {"throw", "throws", "try", "catch", "synchronized", "assert", "package",
            "native", "volatile", "transient", "var", "yield", "Object", "Thread", "System\\.(?!arraycopy)",
            "Math\\.\\w+Exact", "equals", "hashCode", "toString", "Random", "File"};
        for (String word : banned) {
            Matcher found = Pattern.compile("(?<![\\w])" + word + (word.endsWith(")") ? "" : "\\b"))
                .matcher(code);
            due.holds("no " + word, !found.find());
        }
        due.holds("no lambda", !code.contains("->"));
        due.holds("no method reference", !code.contains("::"));
        Matcher imports = Pattern.compile("(?m)^import (.*);").matcher(code);
        while (imports.find()) {
            due.holds("import of " + imports.group(1), imports.group(1).equals("java.util.Arrays"));
        }
    }
}
