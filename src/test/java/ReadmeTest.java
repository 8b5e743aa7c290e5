import java.io.IOException;
import java.lang.reflect.InvocationTargetException;
import java.lang.reflect.Method;
import java.nio.file.Files;
import java.nio.file.Path;
import java.util.regex.Matcher;
import java.util.regex.Pattern;

/** Makes the calls of the README's example, and compares the answers with those that stand behind them. */
public final class ReadmeTest {
  private static final Pattern CALL = Pattern.compile("keeper\\.(\\w+)\\((.*)\\); +// (.*?)(:.*)?");

  public static void main(String[] args) throws IOException {
    Buildkeeper keeper = new Buildkeeper();
    int calls = 0;
    for (String line : Files.readAllLines(Path.of("README.md"))) {
      Matcher call = CALL.matcher(line);
      if (call.matches()) {
        Check.is(line + " // " + answer(keeper, call.group(1), call.group(2)), line + " // " + call.group(3));
        calls++;
      }
    }
    Check.is(calls >= 20, true);
    Check.end();
  }

  private static String answer(Buildkeeper keeper, String name, String told) {
    String[] parts = told.isEmpty() ? new String[0] : told.split(", ");
    Object[] arguments = new Object[parts.length];
    for (int i = 0; i < parts.length; i++) {
      arguments[i] = parts[i].equals("true") || parts[i].equals("false") ? (Object) Boolean.valueOf(parts[i]) : (Object) Integer.valueOf(parts[i]);
    }
    for (Method method : Buildkeeper.class.getMethods()) {
      if (method.getName().equals(name) && method.getParameterCount() == parts.length) {
        return spelled(keeper, method, arguments);
      }
    }
    return "no such call";
  }

  private static String spelled(Buildkeeper keeper, Method method, Object[] arguments) {
    try {
      Object answer = method.invoke(keeper, arguments);
      return answer instanceof String ? "\"" + answer + "\"" : String.valueOf(answer);
    } catch (InvocationTargetException e) {
      return "throws " + e.getCause().getClass().getSimpleName();
    } catch (IllegalAccessException e) {
      return "can't be called";
    }
  }
}
