import java.io.IOException;
import java.lang.reflect.Method;
import java.nio.file.Files;
import java.nio.file.Path;
import java.util.regex.Matcher;
import java.util.regex.Pattern;

/** Every call that README.md shows, with the answer that stands behind it. */
public final class ReadmeTest {
    private static final Pattern CALL = Pattern.compile("x\\.(\\w+)\\((.*)\\); +// (-?\\w+).*");
    private static final Pattern WORD = Pattern.compile("word\\(\"(.*)\"\\)");

    private static long valueOf(String said) throws ReflectiveOperationException {
        Matcher word = WORD.matcher(said);
        if (word.matches()) return Due.word(word.group(1));
        if (said.startsWith("0x")) return Long.parseUnsignedLong(said.substring(2, said.length() - 1), 16);
        return said.matches("[A-Z]+") ? ViewCards.class.getField(said).getInt(null) : Long.parseLong(said);
    }

    private static Method methodOf(String name) {
        for (Method method : ViewCards.class.getMethods()) {
            if (method.getName().equals(name)) return method;
        }
        throw new IllegalStateException("README tells of " + name);
    }

    private static long answerOf(ViewCards x, String name, String said) throws ReflectiveOperationException {
        Method method = methodOf(name);
        String[] words = said.isEmpty() ? new String[0] : said.split(", ");
        Object[] values = new Object[words.length];
        for (int i = 0; i < words.length; i++) {
            long value = valueOf(words[i]);
            if (method.getParameterTypes()[i] == int.class) values[i] = (int) value;
            else values[i] = value;
        }
        return ((Number) method.invoke(x, values)).longValue();
    }

    public static void main(String[] args) throws IOException, ReflectiveOperationException {
        ViewCards x = null;
        String part = "";
        int calls = 0;
        for (String line : Files.readAllLines(Path.of(System.getProperty("project", "."), "README.md"))) {
            if (line.startsWith("#")) part = line;
            if (line.equals("ViewCards x = new ViewCards();")) x = new ViewCards();
            Matcher call = CALL.matcher(line);
            if (!call.matches()) {
                Due.due("as a call with its answer this cannot be read: " + line, line.startsWith("x.") ? 1 : 0, 0);
                continue;
            }
            Due.says(part);
            Due.due(call.group(1) + "(" + call.group(2) + ")", answerOf(x, call.group(1), call.group(2)), valueOf(call.group(3)));
            calls++;
        }
        Due.due("README shows calls", calls > 0 ? 1 : 0, 1);
        Due.end();
    }
}
