import java.io.IOException;
import java.lang.reflect.Constructor;
import java.lang.reflect.Field;
import java.lang.reflect.Method;
import java.lang.reflect.Modifier;
import java.nio.file.Files;
import java.nio.file.Path;
import java.util.Arrays;
import java.util.List;
import java.util.Set;
import java.util.TreeSet;
import java.util.regex.Matcher;
import java.util.regex.Pattern;

/** The public face, and those rules of LANGUAGE.md that the compiled class or its text can show. */
public final class FaceTest {
  private static final Check CHECK = new Check();
  private static final Set<String> FACE = new TreeSet<>(List.of("int lot(int,int,int,int,int)", "int cocoon(int,int,int)",
      "int fineness(int,int,int) throws IndexOutOfBoundsException", "int test(int,int,int)", "int pot(int,int)",
      "boolean target(int,int)", "boolean fill(int,int,int,int)", "int feed(int,int,int,int,int)", "int end(int)",
      "int program(int)", "int place()", "int run(int,int)", "int about(int,int)",
      "int in(int,int,int) throws NoSuchElementException", "int cut(int)", "int skein(int,int)", "int metre(int,int,int)",
      "int piece(int,int,int)", "int grade(int,int,int)", "int drawn(int)", "boolean shelve(int,int,int,int)",
      "int take(int,int)", "boolean copy(int,int,int,int,int)", "int number(int,int)", "boolean price(int,int)",
      "int mix(int,int,int,boolean)", "boolean mixed(int)", "int day()", "boolean fault(int,int)", "int pay(int,int,int)",
      "int count(int)"));

  /** A member of what an array holds, with no test against null between (rule 7). */
  private static final String UNTESTED = "\\]\\s*\\.";

  public static void main(String[] args) throws IOException {
    publicFace();
    membersOfClasses();
    words();
    imports();
    lengthOfMethods();
    CHECK.due("NONE", SilkMill.NONE, -1);
    CHECK.end();
  }

  private static String shown(Method m) {
    StringBuilder text = new StringBuilder(m.getReturnType().getSimpleName()).append(' ').append(m.getName()).append('(');
    text.append(String.join(",", Arrays.stream(m.getParameterTypes()).map(Class::getSimpleName).toList())).append(')');
    for (Class<?> e : m.getExceptionTypes()) {
      text.append(" throws ").append(e.getSimpleName());
    }
    return text.toString();
  }

  private static void publicFace() {
    Class<?> c = SilkMill.class;
    CHECK.due("public and final", Modifier.isPublic(c.getModifiers()) && Modifier.isFinal(c.getModifiers()), true);
    Set<String> open = new TreeSet<>();
    for (Method m : c.getDeclaredMethods()) {
      if (!Modifier.isPrivate(m.getModifiers())) {
        open.add(shown(m));
      }
    }
    CHECK.due("the methods " + open, open.equals(FACE), true);
    for (Field f : c.getDeclaredFields()) {
      CHECK.due("field " + f.getName(), Modifier.isPrivate(f.getModifiers()) || f.getName().equals("NONE"), true);
    }
    Constructor<?>[] made = c.getDeclaredConstructors();
    CHECK.due("one constructor", made.length, 1);
    CHECK.due("public, without arguments", Modifier.isPublic(made[0].getModifiers()) && made[0].getParameterCount() == 0, true);
  }

  private static void membersOfClasses() {
    Set<String> names = new TreeSet<>();
    FACE.forEach(f -> names.add(f.substring(f.indexOf(' ') + 1, f.indexOf('('))));
    Class<?>[] inside = SilkMill.class.getDeclaredClasses();
    CHECK.due("classes", inside.length <= 12, true);
    for (Class<?> c : inside) {
      CHECK.due(c + " is static", Modifier.isStatic(c.getModifiers()), true);
      CHECK.due(c + " is not open", Modifier.isPublic(c.getModifiers()) || Modifier.isProtected(c.getModifiers()), false);
      CHECK.due(c + "'s fields", Arrays.stream(c.getDeclaredFields()).filter(f -> !Modifier.isStatic(f.getModifiers())).count() <= 20, true);
      for (Method m : c.getDeclaredMethods()) {
        CHECK.due(m + " bears a name of the face", names.contains(m.getName()), false);
        CHECK.due(m + "'s parameters", m.getParameterCount() <= 7, true);
      }
    }
    for (Method m : SilkMill.class.getDeclaredMethods()) {
      CHECK.due(m + " bears a name of the face", Modifier.isPrivate(m.getModifiers()) && names.contains(m.getName()), false);
    }
  }

  private static String source() throws IOException {
    return Files.readString(Path.of("src/main/java/SilkMill.java"));
  }

  private static void words() throws IOException {
    String text = source().replaceAll("(?s)/\\*.*?\\*/", "").replaceAll("//[^\n]*", "").replaceAll("\"[^\"\n]*\"", "\"\"");
    List<String> refused = List.of("->", "::", "\\btry\\b", "\\bcatch\\b", "\\bfinally\\b", "\\bsynchronized\\b", "\\bassert\\b",
        "\\bExact\\b", "\\bRandom\\b", "\\bThread\\b", "\\bSystem\\.(?!arraycopy\\b)", "\\bMath\\.(?!max\\b|min\\b|abs\\b)", "\\bpackage\\b",
        "\\bdouble\\b", "\\bfloat\\b", "\"\" *\\+", "\\+ *\"\"", "\\bprotected\\b", "\\bvar\\b", UNTESTED);
    for (String r : refused) {
      Matcher m = Pattern.compile(r).matcher(text);
      CHECK.due("the source has " + r, m.find(), false);
    }
    Matcher thrown = Pattern.compile("throw new (\\w+)\\(").matcher(text);
    Set<String> all = new TreeSet<>();
    while (thrown.find()) {
      all.add(thrown.group(1));
    }
    CHECK.due("what is thrown: " + all, all.equals(Set.of("IndexOutOfBoundsException", "NoSuchElementException")), true);
  }

  private static void imports() throws IOException {
    Set<String> all = new TreeSet<>();
    Matcher m = Pattern.compile("(?m)^import (.*);").matcher(source());
    while (m.find()) {
      all.add(m.group(1));
    }
    CHECK.due("imports " + all, Set.of("java.util.Arrays", "java.util.NoSuchElementException").containsAll(all), true);
  }

  /** A method's body ends at the brace that stands as far in as its head. */
  private static void lengthOfMethods() throws IOException {
    Matcher m = Pattern.compile("(?m)^( {4}| {8})(?! )[^\n;=]*\\([^\n;]*\\)[^\n;]*\\{\n(?s)(.*?)\n\\1\\}").matcher(source());
    int found = 0;
    while (m.find()) {
      found++;
      CHECK.due("lines of " + m.group().split("\n")[0].trim(), m.group(2).split("\n").length <= 58, true);
    }
    CHECK.due("methods found", found > 80, true);
  }
}
