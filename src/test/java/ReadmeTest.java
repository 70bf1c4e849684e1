import java.io.IOException;
import java.lang.reflect.Method;
import java.nio.file.Files;
import java.nio.file.Path;
import java.util.regex.Matcher;
import java.util.regex.Pattern;

/** What README.md shows: each line of its example answers what stands behind it. */
public final class ReadmeTest {
    private static final Check CHECK = new Check();
    private static final Pattern TOLD = Pattern.compile("tell\\(x, \"([^\"]*)\"\\);");
    private static final Pattern ASKED = Pattern.compile("x\\.(\\w+)\\(([-0-9, ]*)\\);\\s*// (-?\\d+).*");

    public static void main(String[] args) throws IOException, ReflectiveOperationException {
        ByHeart x = new ByHeart();
        int lines = 0;
        for (String line : Files.readAllLines(Path.of("README.md"))) {
            Matcher told = TOLD.matcher(line);
            Matcher asked = ASKED.matcher(line);
            if (told.matches()) {
                Check.type(x, told.group(1));
            } else if (asked.matches()) {
                CHECK.due(line, ask(x, asked.group(1), asked.group(2)), Long.parseLong(asked.group(3)));
                lines++;
            }
        }
        CHECK.due("lines with an answer", lines, 16);
        CHECK.finish();
    }

    private static long ask(ByHeart x, String name, String list) throws ReflectiveOperationException {
        String[] texts = list.isEmpty() ? new String[0] : list.split(", ");
        Class<?>[] types = new Class<?>[texts.length];
        Object[] numbers = new Object[texts.length];
        for (int i = 0; i < texts.length; i++) {
            types[i] = int.class;
            numbers[i] = Integer.valueOf(texts[i]);
        }
        Method method = ByHeart.class.getMethod(name, types);
        return ((Number) method.invoke(x, numbers)).longValue();
    }
}
