import java.nio.file.Files;
import java.nio.file.Path;
import java.util.regex.Matcher;
import java.util.regex.Pattern;

/** The example of README.md: its calls, in its order, answer what stands behind them. */
public final class ReadmeTest {
    private static final Checks c = new Checks();

    public static void main(String[] args) throws Exception {
        String readme = Files.readString(Path.of("README.md"));
        c.about("README.md");
        Matcher example = Pattern.compile("(?s)```java\n(.*?)```").matcher(readme);
        c.holds("has an example", example.find());
        play(example.group(1));
        for (java.lang.reflect.Method m : MindsByTen.class.getDeclaredMethods()) {
            if (java.lang.reflect.Modifier.isPublic(m.getModifiers())) {
                c.holds("names " + m.getName(), readme.contains("`" + m.getName() + "`"));
            }
        }
        c.end();
    }

    private static void play(String example) throws Exception {
        Matcher text = Pattern.compile("text = \"(.*?)\"").matcher(example);
        c.holds("has a text", text.find());
        MindsByTen x = new MindsByTen();
        Checks.tell(x, text.group(1));
        Matcher call = Pattern.compile("(?m)^x\\.(\\w+)\\((\\d*)\\); *// (-?\\d+)").matcher(example);
        int calls = 0;
        while (call.find()) {
            calls++;
            boolean bare = call.group(2).isEmpty();
            Class<?>[] types = bare ? new Class<?>[0] : new Class<?>[] {int.class};
            Object[] numbers = bare ? new Object[0] : new Object[] {Integer.parseInt(call.group(2))};
            Number answer = (Number) MindsByTen.class.getMethod(call.group(1), types).invoke(x, numbers);
            c.due(call.group(), answer.longValue(), Long.parseLong(call.group(3)));
        }
        c.due("each line with an answer is a call", calls, example.split("\nx\\.").length - 1);
    }
}
