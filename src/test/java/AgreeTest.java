import java.lang.reflect.InvocationTargetException;
import java.lang.reflect.Method;
import java.nio.charset.StandardCharsets;
import java.util.ArrayList;
import java.util.Arrays;
import java.util.HashMap;
import java.util.List;
import java.util.Map;
import java.util.Random;

/** Runs of drawn calls, asked of SilkMill and of PlainMill alike: all 32 promises, wrong numbers among them. */
public final class AgreeTest {
  private static final int CALLS = 512;
  private static final Map<String, Method> MILL = methods(SilkMill.class);
  private static final Map<String, Method> PLAIN = methods(PlainMill.class);
  private static final int[] WILD = {Integer.MIN_VALUE, Integer.MIN_VALUE + 1, -1000, -100, -2, -1, 0, 1, 2, 13, 41, 61, 100,
      301, 1001, 2001, 10001, Integer.MAX_VALUE - 20, Integer.MAX_VALUE - 1, Integer.MAX_VALUE};

  private final Random random;
  private final SilkMill mill = new SilkMill();
  private final PlainMill plain = new PlainMill();
  private final List<String> asked = new ArrayList<>();
  private final boolean wild;
  private final int frail;

  private AgreeTest(long seed) {
    random = new Random(seed);
    wild = seed % 4 == 0;
    frail = new int[] {0, 5, 30, 200}[(int) (seed / 4 % 4)];
  }

  public static void main(String[] args) {
    int runs = args.length > 0 ? Integer.parseInt(args[0]) : 600;
    long calls = 0;
    for (int seed = 1; seed <= runs; seed++) {
      AgreeTest one = new AgreeTest(seed);
      String fault = seed % 10 == 0 ? one.wearOut() : one.play();
      calls += one.asked.size();
      if (fault != null) {
        System.out.println("run " + seed + ", last calls:");
        int from = Math.max(0, one.asked.size() - 25);
        one.asked.subList(from, one.asked.size()).forEach(System.out::println);
        System.out.println(fault);
        System.exit(1);
      }
    }
    System.out.println(runs + " runs of " + calls + " calls in all agree");
  }

  private static Map<String, Method> methods(Class<?> c) {
    Map<String, Method> all = new HashMap<>();
    for (Method m : c.getDeclaredMethods()) {
      if (java.lang.reflect.Modifier.isPublic(m.getModifiers())) {
        all.put(m.getName(), m);
      }
    }
    return all;
  }

  private static String answer(Method m, Object mill, Object[] args) {
    try {
      return String.valueOf(m.invoke(mill, args));
    } catch (InvocationTargetException e) {
      return "throws " + e.getCause().getClass().getName();
    } catch (IllegalAccessException e) {
      throw new IllegalStateException(e);
    }
  }

  /** What differs, or null. */
  private String ask(String name, Object... args) {
    String got = answer(MILL.get(name), mill, args);
    String want = answer(PLAIN.get(name), plain, args);
    asked.add(name + Arrays.toString(args) + " " + got);
    return got.equals(want) ? null : "due is " + want;
  }

  private int upTo(int n) {
    return random.nextInt(n);
  }

  /** A number a to b, at times one just beside, in wild runs at times any. */
  private int some(int a, int b) {
    int dice = upTo(wild ? 12 : 60);
    if (dice == 0) {
      return a - 1;
    }
    if (dice == 1) {
      return b + 1;
    }
    if (dice == 2 && wild) {
      return WILD[upTo(WILD.length)];
    }
    return a + upTo(b - a + 1);
  }

  private String play() {
    String fault = setUp();
    while (fault == null && asked.size() < CALLS - 120) {
      fault = step();
    }
    while (fault == null && asked.size() < CALLS) {
      fault = look();
    }
    return fault;
  }

  /** One pot, frail cocoons, long runs: rows of cocoons go round more often than they have cells. */
  private String wearOut() {
    String fault = ask("pot", 100, 1 + upTo(2));
    for (int l = 0; fault == null && l < 3; l++) {
      fault = ask("lot", 60, random.nextInt(), 40, 200, 200);
      fault = fault != null ? fault : ask("fill", 0, l, 0, 60);
    }
    while (fault == null && asked.size() < CALLS - 10) {
      switch (upTo(6)) {
        case 0: fault = typeProgram(0, pick("cast;drop;cast;", "cast;cast;cast;cast;drop;", "cast;cast;cast;cast;cast;cast;", "cast;cast;drop;drop;")); break;
        case 1: case 2: fault = ask("run", 0, 1 + upTo(upTo(2) == 0 ? 5 : 40)); break;
        default: fault = ask("in", 0, upTo(3), upTo(upTo(2) == 0 ? 3 : 200)); break;
      }
    }
    return fault;
  }

  private String setUp() {
    String fault = null;
    for (int i = 0; fault == null && i < 3; i++) {
      fault = ask("lot", some(20, 60), random.nextInt(), some(20, 60), some(40, 120), frail);
      fault = fault != null ? fault : ask("pot", some(10, 400), some(1, 12));
      fault = fault != null ? fault : typeProgram(i, goodProgram());
      fault = fault != null ? fault : ask("fill", i, i, some(0, 5), some(10, 15));
    }
    return fault;
  }

  private String step() {
    switch (upTo(22)) {
      case 0: return ask("lot", some(1, 60), random.nextInt(), some(20, 60), some(40, 200), some(0, 200));
      case 1: return ask("pot", some(10, 2000), some(1, 50));
      case 2: return ask("fill", some(0, 3), some(0, 4), some(0, 59), some(1, 12));
      case 3: return ask("target", some(0, 3), some(10, 400));
      case 4: return typeProgram(some(0, 3), upTo(2) == 0 ? goodProgram() : spoilt(goodProgram()));
      case 5: case 6: case 7: case 8: return ask("run", some(0, 2), some(0, upTo(4) == 0 ? 300 : 25));
      case 9: case 10: return ask("cut", some(0, 2));
      case 11: return ask("grade", some(0, 20), random.nextInt(), some(1, 5));
      case 12: return ask("shelve", some(0, 15), some(0, 2), some(0, 8), upTo(3) == 0 ? random.nextInt() : some(0, 59));
      case 13: return ask("take", some(0, 15), some(0, 2));
      case 14: return ask("copy", some(0, 15), some(0, 4), some(0, 15), some(0, 4), some(0, 5));
      case 15: return ask("price", some(0, 3), upTo(3) == 0 ? 0 : some(0, 1000));
      case 16: return ask("mix", some(1, upTo(2) == 0 ? 400 : 20000), some(0, 60), some(60, 700), upTo(3) == 0);
      case 17: return ask("day");
      case 18: return ask("fault", some(0, 20), some(1, 10000));
      case 19: return ask("feed", random.nextInt(), 0, 1, 2, random.nextInt());
      case 20: return ask("end", some(0, 400));
      default: return look();
    }
  }

  private String look() {
    switch (upTo(16)) {
      case 0: return ask("cocoon", some(0, 4), some(0, 59), some(0, 6));
      case 1: return ask("fineness", some(0, 4), some(0, 59), some(0, 100));
      case 2: return ask("test", some(0, 4), random.nextInt(), some(0, 20));
      case 3: return ask("about", some(0, 3), some(0, 10));
      case 4: return ask("in", some(0, 3), some(0, 2), some(0, 12));
      case 5: case 6: return ask("skein", some(0, 39), some(0, 11));
      case 7: return ask("metre", some(0, 20), some(0, 40), some(0, 1));
      case 8: case 9: return ask("piece", some(0, 20), some(0, 40), some(0, 4));
      case 10: return ask("drawn", some(0, 6));
      case 11: return ask("number", some(0, 15), some(0, 7));
      case 12: return ask("mixed", some(0, 39));
      case 13: return ask("pay", some(0, 3), some(0, 6), some(0, 9));
      case 14: return ask("place");
      default: return ask("count", some(0, 11));
    }
  }

  private String typeProgram(int pot, String text) {
    byte[] bytes = text.getBytes(StandardCharsets.ISO_8859_1);
    int size = Math.min(bytes.length, 400);
    byte[] all = Arrays.copyOf(bytes, Math.min(400, (size + 19) / 20 * 20));
    String fault = ask("end", 0);
    for (int i = 0; fault == null && i < all.length; i += 20) {
      fault = ask("feed", Check.word(all, i), Check.word(all, i + 4), Check.word(all, i + 8), Check.word(all, i + 12),
          Check.word(all, i + 16));
    }
    fault = fault != null ? fault : ask("end", size);
    fault = fault != null ? fault : ask("program", pot);
    return fault != null ? fault : ask("place");
  }

  private String pick(String... words) {
    return words[upTo(words.length)];
  }

  private String goodProgram() {
    StringBuilder text = new StringBuilder(upTo(3) == 0 ? "" : "if ends<" + (1 + upTo(12)) + ":cast;");
    int rules = upTo(8) == 0 ? 9 + upTo(5) : upTo(4);
    for (int r = 0; r < rules; r++) {
      text.append(pick("", " ", "\n")).append(condition());
      text.append(pick("cast", "cast", "cast", "drop", "drop", "find", "throw", "cut", "stop " + upTo(4), "stop3")).append(pick(";", " ;"));
    }
    return text.toString();
  }

  private String condition() {
    StringBuilder text = new StringBuilder();
    int many = pick("0", "1", "1", "2", "3", "4", "5").charAt(0) - '0';
    for (int c = 0; c < many; c++) {
      text.append(c == 0 ? "if " : pick(" and ", "and ", "\nand "));
      switch (upTo(7)) {
        case 0: text.append("fine").append(pick("<", "=", ">")).append(upTo(400)); break;
        case 1: text.append("ends ").append(pick("<", "=", ">")).append(upTo(13)); break;
        case 2: text.append("basket").append(pick("<", "=", "> ")).append(upTo(15)); break;
        case 3: text.append("lost").append(pick("<", "=", ">")).append(upTo(4)); break;
        case 4: text.append("made").append(pick("<", " =", ">")).append(upTo(30)); break;
        case 5: text.append("thin").append(pick("<", "=", ">")).append(15 + upTo(40)); break;
        default: text.append("day").append(pick("<", "=", ">")).append(upTo(6)); break;
      }
    }
    return many == 0 ? "" : text.append(pick(":", " : ")).toString();
  }

  private String spoilt(String good) {
    StringBuilder text = new StringBuilder(good.isEmpty() ? "cut;" : good);
    int at = upTo(text.length());
    switch (upTo(4)) {
      case 0: text.deleteCharAt(at); break;
      case 1: text.insert(at, pick("if ", "1", "12345", ":", ";", "and ", "x", " ", "\t", "castcast", "basketcase", "A", "\u00ff", "\0")); break;
      case 2: text.setLength(at); break;
      default: text.setCharAt(at, pick(" ", "\n", "<", "z", "0", ";", ":", "\r").charAt(0)); break;
    }
    return text.toString();
  }
}
