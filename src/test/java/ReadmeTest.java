import java.lang.reflect.Method;
import java.nio.file.Files;
import java.nio.file.Path;
import java.util.regex.Matcher;
import java.util.regex.Pattern;

/** Makes the calls of README.md's example, each of which must answer what its row says behind "->". */
public final class ReadmeTest {
    private static final Pattern EXAMPLE = Pattern.compile("(?s)```java\n(.*?)```");
    private static final Pattern CALL = Pattern.compile("x\\.(\\w+)\\((.*?)\\);\\s*// -> (-?\\d+).*");

    private ReadmeTest() {
    }

    public static void main(String[] args) throws ReflectiveOperationException, java.io.IOException {
        Matcher example = EXAMPLE.matcher(Files.readString(Path.of("README.md")));
        Check.holds("README.md has an example", example.find());
        PenSchool x = new PenSchool();
        int calls = 0;
        for (String row : example.group(1).split("\n")) {
            if (row.startsWith("//") || row.equals("PenSchool x = new PenSchool();")) {
                continue;
            }
            Matcher call = CALL.matcher(row);
            if (!call.matches()) {
                Check.holds("a call and its answer: " + row, false);
                continue;
            }
            calls++;
            Check.due(row, answer(x, call.group(1), call.group(2)), Integer.parseInt(call.group(3)));
        }
        Check.holds("the example has calls", calls > 0);
        Check.finish("ReadmeTest");
    }

    private static int answer(PenSchool x, String name, String list) throws ReflectiveOperationException {
        String[] texts = list.isEmpty() ? new String[0] : list.split(", ");
        Class<?>[] types = new Class<?>[texts.length];
        Object[] numbers = new Object[texts.length];
        for (int i = 0; i < texts.length; i++) {
            types[i] = int.class;
            numbers[i] = Integer.decode(texts[i]);
        }
        Method method = PenSchool.class.getMethod(name, types);
        return (Integer) method.invoke(x, numbers);
    }
}
