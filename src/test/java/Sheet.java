import java.lang.reflect.InvocationTargetException;
import java.lang.reflect.Method;
import java.nio.charset.StandardCharsets;
import java.util.ArrayList;
import java.util.Arrays;
import java.util.HashMap;
import java.util.List;
import java.util.Map;

/**
 * One sentence of the document and the calls that ask it, written as "name number number ..". A mill is asked at most
 * 512 times, as the document promises no more; what goes beyond is asked of a mill that was led to the same state anew.
 */
final class Sheet {
  private static final int MOST_CALLS = 512;
  private static final Map<String, Method> FACE = new HashMap<>();
  private static int sheets = 0;
  private static int asked = 0;
  private static int wrong = 0;

  static {
    for (Method m : SilkMill.class.getDeclaredMethods()) {
      FACE.put(m.getName(), m);
    }
  }

  private final String sentence;
  private final SilkMill mill = new SilkMill();
  private final List<String> made = new ArrayList<>();

  Sheet(String sentence) {
    this.sentence = sentence;
    sheets++;
  }

  /** Calls that lead to the state that is asked about. */
  Sheet make(String... calls) {
    for (String call : calls) {
      play(call);
    }
    return this;
  }

  /** A call and the answer that is due: a number, true or false, or the name of what is thrown. */
  Sheet due(String call, Object answer) {
    tell(call, play(call), String.valueOf(answer));
    return this;
  }

  /** Calls that have the same answer. */
  Sheet all(Object answer, String... calls) {
    for (String call : calls) {
      due(call, answer);
    }
    return this;
  }

  /** Calls that are refused: each has the answer, and none of them changes anything. */
  Sheet refused(Object answer, String... calls) {
    return stillBut("", answer, calls);
  }

  /** Calls that answer and change nothing. */
  Sheet still(Object answer, String... calls) {
    return stillBut("", answer, calls);
  }

  /** As still(), but for what one other call answers then. */
  Sheet stillBut(String changed, Object answer, String... calls) {
    List<String> before = new ArrayList<>(made);
    all(answer, calls);
    compare(before, Looks.after(before), changed);
    compare(before, Looks.DEEDS, changed);
    return this;
  }

  /** The text alone comes onto the tape. */
  Sheet type(String text) {
    return make(Looks.typed(text));
  }

  Sheet program(int pot, String text) {
    return type(text).make("program " + pot);
  }

  /** A text that is read by a pot whose own program has no rules: what program() and place() answer. */
  Sheet reads(String text, int answer, int place) {
    type(text).due("program 0", answer).due("place", place);
    return due("about 0 9", Math.max(answer, 0)).make("program 0");
  }

  static void end() {
    System.out.println(sheets + " sentences, " + asked + " answers asked, " + wrong + " not as due");
    if (wrong != 0 || asked == 0) {
      System.exit(1);
    }
  }

  private String play(String call) {
    made.add(call);
    if (made.size() > MOST_CALLS) {
      throw new IllegalStateException(sentence + ": more than 512 calls");
    }
    return answer(mill, call);
  }

  private void tell(String call, String got, String due) {
    asked++;
    if (!got.equals(due)) {
      wrong++;
      System.out.println(sentence + " -- " + call + " answered " + got + ", due is " + due);
    }
  }

  /** Asks a mill that had all calls and one that had not the last ones, in as many parts as 512 calls need. */
  private void compare(List<String> before, List<String> looks, String changed) {
    int part = MOST_CALLS - made.size();
    if (part < 1 || looks == Looks.DEEDS && part < looks.size()) {
      throw new IllegalStateException(sentence + ": no calls left to look with");
    }
    for (int from = 0; from < looks.size(); from += part) {
      SilkMill without = led(before);
      SilkMill with = led(made);
      for (String look : looks.subList(from, Math.min(looks.size(), from + part))) {
        String due = answer(without, look);
        String got = answer(with, look);
        if (!look.equals(changed)) {
          tell(made.get(made.size() - 1) + " and the like, then " + look, got, due);
        }
      }
    }
  }

  private static SilkMill led(List<String> calls) {
    SilkMill mill = new SilkMill();
    calls.forEach(call -> answer(mill, call));
    return mill;
  }

  static String answer(SilkMill mill, String call) {
    String[] words = call.split(" ");
    Method m = FACE.get(words[0]);
    if (m == null || m.getParameterCount() != words.length - 1) {
      throw new IllegalArgumentException("no such call: " + call);
    }
    Object[] numbers = new Object[words.length - 1];
    for (int i = 0; i < numbers.length; i++) {
      numbers[i] = m.getParameterTypes()[i] == boolean.class ? (Object) Boolean.valueOf(words[i + 1]) : number(words[i + 1]);
    }
    try {
      return String.valueOf(m.invoke(mill, numbers));
    } catch (InvocationTargetException e) {
      return e.getCause().getClass().getSimpleName();
    } catch (IllegalAccessException e) {
      throw new IllegalStateException(e);
    }
  }

  private static Integer number(String word) {
    if (word.equals("min")) {
      return Integer.MIN_VALUE;
    }
    return word.equals("max") ? Integer.MAX_VALUE : Integer.parseInt(word);
  }

  /** What a mill shows: calls that change nothing, and calls that show what only a change can. */
  private static final class Looks {
    static final List<String> DEEDS = deeds();

    static String[] typed(String text) {
      byte[] bytes = text.getBytes(StandardCharsets.ISO_8859_1);
      byte[] all = Arrays.copyOf(bytes, (bytes.length + 19) / 20 * 20);
      List<String> calls = new ArrayList<>(List.of("end 0"));
      for (int i = 0; i < all.length; i += 20) {
        StringBuilder call = new StringBuilder("feed");
        for (int j = 0; j < 20; j += 4) {
          call.append(' ').append(Check.word(all, i + j));
        }
        calls.add(call.toString());
      }
      if (bytes.length < all.length) {
        calls.add("end " + bytes.length);
      }
      return calls.toArray(new String[0]);
    }

    static List<String> after(List<String> calls) {
      List<String> looks = new ArrayList<>(List.of("place"));
      counted(looks, "count", 12);
      counted(looks, "drawn", 8);
      counted(looks, "mixed", 40);
      for (int place = 0; place < 16; place++) {
        counted(looks, "number " + place, 8);
      }
      SilkMill x = led(calls);
      int lots = Integer.parseInt(answer(x, "count 0"));
      int pots = Integer.parseInt(answer(x, "count 1"));
      int skeins = Integer.parseInt(answer(x, "count 2"));
      for (int l = 0; l < lots; l++) {
        for (int i = 0; i < 60; i++) {
          looks.addAll(List.of("cocoon " + l + " " + i + " 1", "cocoon " + l + " " + i + " 2", "cocoon " + l + " " + i + " 6"));
        }
      }
      for (int p = 0; p < pots; p++) {
        counted(looks, "about " + p, 11);
        counted(looks, "in " + p + " 0", 65);
        counted(looks, "in " + p + " 1", 12);
        counted(looks, "in " + p + " 2", 12);
      }
      for (int k = 0; k < skeins; k++) {
        counted(looks, "skein " + k, 12);
        looks.addAll(List.of("metre " + k + " 0 0", "metre " + k + " 1 1", "piece " + k + " 0 3", "piece " + k + " 1 4"));
      }
      return looks;
    }

    private static void counted(List<String> looks, String head, int n) {
      for (int i = 0; i < n; i++) {
        looks.add(head + " " + i);
      }
    }

    private static List<String> deeds() {
      List<String> all = new ArrayList<>();
      for (int place = 0; place < 16; place++) {
        counted(all, "take " + place, 3);
      }
      all.addAll(List.of("place", "program 0", "place", "about 0 9", "run 0 3", "about 0 3", "about 0 4", "about 0 5", "run 1 3",
          "about 1 3", "cut 0", "cut 1", "grade 0 5 1", "skein 0 10", "mix 1 min max false", "mixed 0", "mix 200 0 100 true",
          "pay 0 0 0", "pay 1 0 0", "fault 0 1", "day", "pay 0 0 1", "lot 2 5 30 50 0", "pot 50 5", "feed 1 2 3 4 5", "count 6",
          "count 9"));
      return all;
    }
  }
}
