import java.nio.charset.StandardCharsets;
import java.util.Arrays;

/** What the project's tests share: they tell each answer that is not due and end with 1 if there was one. */
final class Check {
  private int wrong = 0;
  private int asked = 0;

  void due(String call, long got, long want) {
    asked++;
    if (got != want) {
      wrong++;
      System.out.println(call + " answered " + got + ", due is " + want);
    }
  }

  void due(String call, boolean got, boolean want) {
    due(call, got ? 1 : 0, want ? 1 : 0);
  }

  /** The call must throw just that class: a subclass would be the machine's own exception. */
  void dueThrow(String call, Runnable made, Class<? extends Throwable> want) {
    Class<?> got = null;
    try {
      made.run();
    } catch (RuntimeException e) {
      got = e.getClass();
    }
    due(call + " throws " + want.getSimpleName(), got == want, true);
  }

  void end() {
    System.out.println(asked + " answers asked, " + wrong + " not as due");
    if (wrong != 0 || asked == 0) {
      System.exit(1);
    }
  }

  /** Puts a text alone on the tape: twenty bytes a call, the rest cut off by end(). */
  static void type(SilkMill mill, byte[] text) {
    mill.end(0);
    byte[] all = Arrays.copyOf(text, (text.length + 19) / 20 * 20);
    for (int i = 0; i < all.length; i += 20) {
      mill.feed(word(all, i), word(all, i + 4), word(all, i + 8), word(all, i + 12), word(all, i + 16));
    }
    mill.end(text.length);
  }

  static void type(SilkMill mill, String text) {
    type(mill, text.getBytes(StandardCharsets.ISO_8859_1));
  }

  /** Types a text and makes it a pot's program: what program() answers. */
  static int program(SilkMill mill, int pot, String text) {
    type(mill, text);
    return mill.program(pot);
  }

  static int word(byte[] all, int i) {
    return (all[i] & 255) << 24 | (all[i + 1] & 255) << 16 | (all[i + 2] & 255) << 8 | all[i + 3] & 255;
  }
}
