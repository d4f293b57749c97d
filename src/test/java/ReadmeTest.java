import java.io.IOException;
import java.lang.reflect.Method;
import java.nio.charset.StandardCharsets;
import java.nio.file.Files;
import java.nio.file.Path;
import java.util.Arrays;
import java.util.HashMap;
import java.util.List;
import java.util.Map;
import java.util.regex.Matcher;
import java.util.regex.Pattern;
import java.util.stream.Stream;

/** What README.md tells of use must be so: its lines of code are played, its tables looked through. */
public final class ReadmeTest {
  private static final Check CHECK = new Check();
  private static final Pattern LINE = Pattern.compile("(?:int (\\w+) = )?mill\\.(\\w+)\\((.*?)\\);\\s*// (-?\\d+|true|false): (.*)");

  public static void main(String[] args) throws IOException, ReflectiveOperationException {
    String readme = Files.readString(Path.of("README.md"));
    int begin = readme.indexOf("```java\n") + 8;
    playLines(readme.substring(begin, readme.indexOf("```", begin)));
    for (Method m : SilkMill.class.getDeclaredMethods()) {
      if ((m.getModifiers() & java.lang.reflect.Modifier.PUBLIC) != 0) {
        CHECK.due("README.md names " + m.getName(), Pattern.compile("(?m)^\\|[^|]*`" + m.getName() + "`").matcher(readme).find(), true);
      }
    }
    for (String test : tests()) {
      CHECK.due("README.md names " + test, Pattern.compile("(?m)^\\|[^|]*`" + test + "`").matcher(readme).find(), true);
    }
    CHECK.due("README.md names .ci/run", readme.contains("    .ci/run\n"), true);
    CHECK.end();
  }

  private static List<String> tests() throws IOException {
    try (Stream<Path> files = Files.list(Path.of("src/test/java"))) {
      return files.map(f -> f.getFileName().toString()).filter(f -> f.endsWith("Test.java")).map(f -> f.replace(".java", "")).toList();
    }
  }

  private static void playLines(String code) throws ReflectiveOperationException {
    SilkMill mill = new SilkMill();
    Map<String, String> names = new HashMap<>();
    for (String line : code.lines().skip(1).toList()) {
      Matcher m = LINE.matcher(line);
      CHECK.due("read: " + line, m.matches(), true);
      if (!m.matches()) {
        continue;
      }
      List<String> given = Arrays.stream(m.group(3).split(", ")).map(a -> names.getOrDefault(a, a)).toList();
      String got = String.valueOf(call(mill, m.group(2), given));
      CHECK.due(line + " answered " + got, got.equals(m.group(4)), true);
      if (m.group(1) != null) {
        names.put(m.group(1), got);
      }
      if (m.group(2).equals("feed")) {
        CHECK.due(line + " spells " + spelt(given), m.group(5).startsWith("\"" + spelt(given) + "\""), true);
      }
    }
  }

  private static Object call(SilkMill mill, String name, List<String> given) throws ReflectiveOperationException {
    for (Method m : SilkMill.class.getDeclaredMethods()) {
      if (m.getName().equals(name) && m.getParameterCount() == given.size()) {
        return m.invoke(mill, given.stream().map(ReadmeTest::value).toArray());
      }
    }
    return "nothing, as there is no such call";
  }

  private static Object value(String text) {
    return text.equals("true") || text.equals("false") ? (Object) Boolean.valueOf(text) : (Object) Integer.valueOf(text);
  }

  private static String spelt(List<String> numbers) {
    java.nio.ByteBuffer bytes = java.nio.ByteBuffer.allocate(4 * numbers.size());
    numbers.forEach(n -> bytes.putInt(Integer.parseInt(n)));
    return new String(bytes.array(), StandardCharsets.ISO_8859_1);
  }
}
