import java.io.IOException;
import java.lang.reflect.Method;
import java.nio.file.Files;
import java.nio.file.Path;
import java.util.List;
import java.util.regex.Matcher;
import java.util.regex.Pattern;

/** The examples of README.md: each call answers the number that the comment behind it begins with. */
public final class ReadmeTest {
  private static final Pattern CALL = Pattern.compile("x\\.(\\w+)\\(([^)]*)\\);(?:\\s*// (-?\\d+)\\b.*)?");
  private static final Due due = new Due();

  public static void main(String[] args) throws IOException, ReflectiveOperationException {
    JudgedCode x = null;
    int answers = 0;
    boolean inside = false;
    for (String line : Files.readString(Path.of("README.md")).split("\n")) {
      if (line.startsWith("```")) {
        inside = line.equals("```java");
      } else if (inside && line.equals("JudgedCode x = new JudgedCode();")) {
        x = new JudgedCode();
      } else if (inside && !line.isBlank()) {
        answers += call(x, line) ? 1 : 0;
      }
    }
    due.holds("README.md tells answers", answers > 10);
    due.end();
  }

  /** Whether the line tells the answer that is due. */
  private static boolean call(JudgedCode x, String line) throws ReflectiveOperationException {
    Matcher m = CALL.matcher(line);
    if (x == null || !m.matches()) {
      due.wrong("README.md: no call of x: " + line);
      return false;
    }
    List<String> given = m.group(2).isBlank() ? List.of() : List.of(m.group(2).split(",\\s*"));
    long got = answer(x, m.group(1), given);
    if (m.group(3) == null) {
      due.holds("README.md: " + line + " is refused", got >= 0);
      return false;
    }
    due.is("README.md: " + line, got, Long.parseLong(m.group(3)));
    return true;
  }

  private static long answer(JudgedCode x, String name, List<String> given) throws ReflectiveOperationException {
    for (Method method : JudgedCode.class.getDeclaredMethods()) {
      if (method.getName().equals(name) && method.getParameterCount() == given.size()) {
        Object[] values = new Object[given.size()];
        for (int i = 0; i < values.length; i++) {
          long value = Long.decode(given.get(i).replace("L", ""));
          boolean wide = method.getParameterTypes()[i] == long.class;
          values[i] = wide ? (Object) value : (Object) (int) value;
        }
        return ((Number) method.invoke(x, values)).longValue();
      }
    }
    due.wrong("README.md: no such call: " + name);
    return 0;
  }
}
