import java.io.IOException;
import java.lang.reflect.Method;
import java.lang.reflect.Modifier;
import java.nio.file.Files;
import java.nio.file.Path;
import java.util.Set;
import java.util.TreeSet;
import java.util.regex.Matcher;
import java.util.regex.Pattern;

/** README.md's calls with the answers that stand behind them, every call of the face, and its way to lay a text. */
final class ReadmeTest {
    private static final Check CHECK = new Check();
    private static final Pattern LAID = Pattern.compile("^lay\\(x, \"(.*)\"\\);$");
    private static final Pattern CALL = Pattern.compile("^x\\.(\\w+)\\((.*?)\\); +// (-?\\d+|true|false): .*$");

    public static void main(String[] args) throws IOException, ReflectiveOperationException {
        String[] blocks = Files.readString(Path.of("README.md")).split("```java\n");
        CHECK.due("blocks of Java in README.md", blocks.length - 1, 2);
        laysAsTheTestsDo(block(blocks, 1));
        answersAreDue(block(blocks, 2));
        CHECK.end();
    }

    private static String block(String[] blocks, int which) {
        return which < blocks.length ? blocks[which].substring(0, blocks[which].indexOf("```")) : "";
    }

    private static void laysAsTheTestsDo(String block) throws IOException {
        String source = Files.readString(Path.of("src/test/java/Check.java")).replaceAll("(?m)^    ", "");
        for (String method : block.split("\n\n")) {
            CHECK.due("is not in Check.java: " + method, source.contains(method.strip()), true);
        }
    }

    private static void answersAreDue(String block) throws ReflectiveOperationException {
        OverFirst x = new OverFirst();
        Set<String> made = new TreeSet<>();
        for (String line : block.split("\n")) {
            Matcher laid = LAID.matcher(line);
            Matcher call = CALL.matcher(line);
            if (laid.matches()) {
                Check.lay(x, laid.group(1));
            } else if (call.matches()) {
                made.add(call.group(1));
                answerIsDue(x, call);
            } else {
                CHECK.due("can't be read: " + line, line.isEmpty() || line.startsWith("OverFirst x = new OverFirst();"), true);
            }
        }
        for (Method method : OverFirst.class.getDeclaredMethods()) {
            if (Modifier.isPublic(method.getModifiers())) {
                CHECK.due(method.getName() + " is called", made.contains(method.getName()), true);
            }
        }
    }

    private static void answerIsDue(OverFirst x, Matcher call) throws ReflectiveOperationException {
        Method method = named(call.group(1));
        String[] words = call.group(2).isEmpty() ? new String[0] : call.group(2).split(", ");
        Object[] values = new Object[words.length];
        for (int i = 0; i < words.length; i++) {
            values[i] = value(words[i], method.getParameterTypes()[i]);
        }
        Object got = method.invoke(x, values);
        boolean same = got.toString().equals(call.group(3));
        CHECK.due(call.group() + " answered " + got, same, true);
    }

    private static Method named(String name) {
        for (Method method : OverFirst.class.getDeclaredMethods()) {
            if (method.getName().equals(name) && Modifier.isPublic(method.getModifiers())) {
                return method;
            }
        }
        throw new IllegalStateException("README.md calls " + name + ", which there is not");
    }

    private static Object value(String word, Class<?> type) {
        if (type == boolean.class) {
            return Boolean.valueOf(word);
        }
        if (type == long.class) {
            return Long.decode(word.replace("L", ""));
        }
        return word.equals("OverFirst.NONE") ? OverFirst.NONE : Integer.parseInt(word);
    }
}
