import java.io.IOException;
import java.lang.reflect.Method;
import java.nio.file.Files;
import java.nio.file.Path;
import java.util.regex.Matcher;
import java.util.regex.Pattern;

/** Makes the calls that README.md shows, in their order, and compares the answers that stand beside them. */
public final class ReadmeTest {
  private static final Pattern CALL = Pattern.compile("map\\.(\\w+)\\(([^)]*)\\);\\s*// (-?\\w+).*");

  public static void main(String[] args) throws IOException, ReflectiveOperationException {
    FaceMap map = new FaceMap();
    int asked = 0;
    int wrong = 0;
    for (String line : Files.readAllLines(Path.of("README.md"))) {
      if (!line.startsWith("map.")) continue;
      asked++;
      Matcher call = CALL.matcher(line);
      String got = call.matches() ? answer(map, call.group(1), call.group(2).split(", ")) : "nothing: it can't be read";
      if (!call.matches() || !got.equals(call.group(3))) {
        wrong++;
        System.out.println(line + " .. answered " + got);
      }
    }
    System.out.println(asked + " calls of README.md, " + wrong + " answers are not as due");
    if (asked == 0 || wrong != 0) System.exit(1);
  }

  private static String answer(FaceMap map, String name, String[] numbers) throws ReflectiveOperationException {
    Object[] values = new Object[numbers.length];
    for (int i = 0; i < values.length; i++) values[i] = Integer.valueOf(numbers[i]);
    for (Method m : FaceMap.class.getMethods()) {
      if (m.getName().equals(name) && m.getParameterCount() == values.length) return String.valueOf(m.invoke(map, values));
    }
    return "nothing: there is no such method";
  }
}
