import java.io.IOException;
import java.lang.reflect.Method;
import java.nio.file.Files;
import java.nio.file.Path;
import java.util.regex.Matcher;
import java.util.regex.Pattern;

/** Does the calls of README.md's example in their order, and looks at the answers behind them. */
public final class ReadmeTest {
    private static final String CODE_BEGINS = "```java\n";
    private static final String CODE_ENDS = "```";
    private static final Pattern MAKING = Pattern.compile("ThreadWinder winder = new ThreadWinder\\(\\);");
    private static final Pattern TYPING =
        Pattern.compile("for \\(char c : \"([^\"]*)\"\\.toCharArray\\(\\)\\) winder\\.type\\(c\\);");
    private static final Pattern CALL =
        Pattern.compile("winder\\.(\\w+)\\(([^)]*)\\); // (-?\\d+): .+");

    private static final Due due = new Due();
    private static final ThreadWinder winder = new ThreadWinder();

    public static void main(String[] args) throws IOException, ReflectiveOperationException {
        String readme = Files.readString(Path.of("README.md"));
        tellsOfEveryCall(readme);
        due.about("the example of README.md");
        for (String line : example(readme).split("\n")) {
            follow(line);
        }
        due.end();
    }

    private static void tellsOfEveryCall(String readme) {
        due.about("the table of README.md");
        for (Method method : ThreadWinder.class.getMethods()) {
            if (method.getDeclaringClass() == ThreadWinder.class) {
                String name = method.getName();
                due.holds(name + "() is not told of", Pattern.compile("(?m)^\\|.*`" + name + "\\(").matcher(readme).find());
            }
        }
    }

    private static String example(String readme) {
        int begins = readme.indexOf(CODE_BEGINS);
        int ends = readme.indexOf(CODE_ENDS, begins + CODE_BEGINS.length());
        due.holds("there is none", begins >= 0 && ends >= 0);
        return begins >= 0 && ends >= 0 ? readme.substring(begins + CODE_BEGINS.length(), ends) : "";
    }

    private static void follow(String line) throws ReflectiveOperationException {
        Matcher typing = TYPING.matcher(line);
        Matcher call = CALL.matcher(line);
        if (typing.matches()) {
            for (char character : typing.group(1).toCharArray()) {
                winder.type(character);
            }
        } else if (call.matches()) {
            due.is(line, answer(call.group(1), call.group(2)), Integer.parseInt(call.group(3)));
        } else {
            due.holds("not understood: " + line, line.isEmpty() || MAKING.matcher(line).matches());
        }
    }

    private static int answer(String name, String given) throws ReflectiveOperationException {
        String[] words = given.isEmpty() ? new String[0] : given.split(", ");
        Class<?>[] types = new Class<?>[words.length];
        Object[] values = new Object[words.length];
        for (int i = 0; i < words.length; i++) {
            boolean quoted = words[i].startsWith("'");
            types[i] = quoted ? char.class : int.class;
            values[i] = quoted ? (Object) words[i].charAt(1) : (Object) Integer.valueOf(words[i]);
        }
        return (int) ThreadWinder.class.getMethod(name, types).invoke(winder, values);
    }
}
