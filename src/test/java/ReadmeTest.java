import java.io.IOException;
import java.lang.reflect.Method;
import java.nio.file.Files;
import java.nio.file.Path;
import java.util.Arrays;
import java.util.Set;
import java.util.TreeSet;
import java.util.regex.Matcher;
import java.util.regex.Pattern;

/** README.md's example: its calls are made, and each must answer what the README says. */
public final class ReadmeTest {
    private static final Check CHECK = new Check("ReadmeTest");
    private static final Pattern EXAMPLE = Pattern.compile("(?s)```java\n(.*?)```");
    private static final Pattern TEXT = Pattern.compile("\"(.*?)\"\\.toCharArray");
    private static final Pattern CALL = Pattern.compile("(?m)^x\\.(\\w+)\\(([-0-9, ]*)\\); +// (-?\\d+): ");

    public static void main(String[] args) throws IOException, ReflectiveOperationException {
        Matcher example = EXAMPLE.matcher(Files.readString(Path.of("README.md")));
        CHECK.same("README.md has an example", example.find() ? 1 : 0, 1);
        String code = example.group(1);
        Matcher text = TEXT.matcher(code);
        CHECK.same("the example has a text", text.find() ? 1 : 0, 1);
        HermitDues x = new HermitDues();
        Check.type(x, text.group(1));
        Set<String> made = new TreeSet<>();
        int calls = 0;
        for (Matcher call = CALL.matcher(code); call.find(); calls++) {
            String told = "x." + call.group(1) + "(" + call.group(2) + ")";
            CHECK.same(told, answer(x, call.group(1), call.group(2)), Long.parseLong(call.group(3)));
            made.add(call.group(1));
        }
        CHECK.same("lines of calls that have their answer", calls, code.lines().filter(line -> line.startsWith("x.")).count());
        CHECK.same("names of calls in the example: " + made, made.size() >= 20 ? 1 : 0, 1);
        CHECK.end();
    }

    private static long answer(HermitDues x, String name, String list) throws ReflectiveOperationException {
        Object[] numbers = list.isEmpty() ? new Object[0] : Arrays.stream(list.split(", ")).map(Integer::valueOf).toArray();
        Class<?>[] ints = new Class<?>[numbers.length];
        Arrays.fill(ints, int.class);
        Method call = HermitDues.class.getMethod(name, ints);
        return ((Number) call.invoke(x, numbers)).longValue();
    }
}
