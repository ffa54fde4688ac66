import java.io.IOException;
import java.lang.reflect.Method;
import java.nio.file.Files;
import java.nio.file.Path;
import java.util.List;
import java.util.Set;
import java.util.TreeSet;
import java.util.regex.Matcher;
import java.util.regex.Pattern;

/** The calls in README.md answer what stands behind them there. */
public final class ReadmeTest {
    private static final Pattern CALL = Pattern.compile("x\\.(\\w+)\\(([^)]*)\\);\\s*// (-?\\d+).*");

    private ReadmeTest() {
    }

    public static void main(String[] args) throws IOException, ReflectiveOperationException {
        LostWood x = new LostWood();
        StringBuilder text = new StringBuilder();
        Set<String> asked = new TreeSet<>();
        String block = "";
        int calls = 0;
        List<String> lines = Files.readAllLines(Path.of("README.md"));
        for (String line : lines) {
            if (line.startsWith("```")) {
                block = line.substring(3);
            } else if (block.equals("text")) {
                text.append(line).append('\n');
            } else if (line.equals("LostWood x = new LostWood();")) {
                x = new LostWood();
            } else if (line.equals("tell(x, text);")) {
                Support.due("3 README's text is told", Support.tell(x, text.toString()), text.length());
            } else if (block.equals("java") && line.startsWith("x.")) {
                Matcher call = CALL.matcher(line);
                Support.due("README: a call with its answer: " + line, call.matches() ? 1 : 0, 1);
                Support.due("README: " + line, answer(x, call.group(1), call.group(2)), Long.decode(call.group(3)));
                asked.add(call.group(1));
                calls++;
            }
        }
        Support.due("README: calls", calls >= 40 ? 1 : 0, 1);
        Support.due("README: methods", asked.size() >= 30 ? 1 : 0, 1);
        Support.finish("ReadmeTest");
    }

    private static long answer(LostWood x, String name, String told) throws ReflectiveOperationException {
        for (Method m : LostWood.class.getMethods()) {
            if (m.getName().equals(name)) {
                String[] parts = told.isEmpty() ? new String[0] : told.split(", ");
                Object[] arguments = new Object[parts.length];
                for (int i = 0; i < parts.length; i++) {
                    long v = Long.decode(parts[i]);
                    arguments[i] = m.getParameterTypes()[i] == long.class ? (Object) v : (Object) (int) v;
                }
                return (Integer) m.invoke(x, arguments);
            }
        }
        return Long.MIN_VALUE;
    }
}
