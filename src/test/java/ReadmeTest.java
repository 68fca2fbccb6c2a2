import java.io.IOException;
import java.lang.reflect.Method;
import java.lang.reflect.Modifier;
import java.nio.file.Files;
import java.nio.file.Path;
import java.util.regex.Matcher;
import java.util.regex.Pattern;

/** README.md: its examples answer what they say, and it names every call with its arguments. */
final class ReadmeTest {
    private static final Pattern EXAMPLE = Pattern.compile("```java\n(.*?)```", Pattern.DOTALL);
    private static final Pattern TEXT = Pattern.compile("String text = \"([^\"]*)\";");
    private static final Pattern CALL = Pattern.compile("desk\\.(\\w+)\\(([-0-9, ]*)\\);\\s*// (-?\\d+):");

    private static int calls = 0;

    public static void main(String[] args) throws IOException, ReflectiveOperationException {
        String page = Files.readString(Path.of("README.md"));
        Matcher example = EXAMPLE.matcher(page);
        int examples = 0;
        while (example.find()) {
            examples++;
            dueExample(examples, example.group(1));
        }
        Desk.check("examples in README.md", examples, 2);
        Desk.check("calls in them", calls > 20, true);
        dueEveryCall(page);
        Desk.end();
    }

    private static void dueExample(int number, String rows) throws ReflectiveOperationException {
        Desk desk = new Desk("README.md, example " + number);
        Matcher text = TEXT.matcher(rows);
        Desk.check("a text in example " + number, text.find(), true);
        desk.types(text.group(1));
        for (String row : rows.split("\n")) {
            if (row.startsWith("desk.")) {
                dueRow(desk, row);
            }
        }
    }

    private static void dueRow(Desk desk, String row) throws ReflectiveOperationException {
        Matcher call = CALL.matcher(row);
        boolean told = call.find();
        Desk.check("README.md tells the answer of " + row, told, true);
        if (told) {
            calls++;
            String[] numbers = call.group(2).isEmpty() ? new String[0] : call.group(2).split(", ");
            long got = answer(desk.shares, call.group(1), numbers);
            desk.due(row, got, Long.parseLong(call.group(3)));
        }
    }

    private static long answer(PostShares shares, String name, String[] numbers) throws ReflectiveOperationException {
        Class<?>[] types = new Class<?>[numbers.length];
        Object[] arguments = new Object[numbers.length];
        for (int i = 0; i < numbers.length; i++) {
            types[i] = int.class;
            arguments[i] = Integer.valueOf(numbers[i]);
        }
        return ((Number) PostShares.class.getMethod(name, types).invoke(shares, arguments)).longValue();
    }

    private static void dueEveryCall(String page) {
        for (Method m : PostShares.class.getDeclaredMethods()) {
            if (Modifier.isPublic(m.getModifiers())) {
                String arguments = "\\w+, ".repeat(m.getParameterCount()).replaceAll(", $", "");
                Pattern named = Pattern.compile("`" + m.getName() + "\\(" + arguments + "\\)`");
                Desk.check("README.md names " + named, named.matcher(page).find(), true);
            }
        }
    }
}
