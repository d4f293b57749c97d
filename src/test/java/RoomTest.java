import java.lang.management.ManagementFactory;

/** Nothing is ever given back in the room of a run, 7.3 million fields and elements: the dearest runs must make far less. */
public final class RoomTest {
  private static final Check CHECK = new Check();
  private static final long MOST_BYTES = 2_000_000;

  public static void main(String[] args) {
    drawAll();
    long before = allocated();
    int calls = drawAll();
    long made = allocated() - before;
    CHECK.due("a run has 512 calls", calls, 512);
    System.out.println(made + " bytes made by drawing all");
    CHECK.due("bytes made by drawing all: " + made, made < MOST_BYTES, true);
    mixAndGrade(flat());
    SilkMill x = flat();
    before = allocated();
    mixAndGrade(x);
    made = allocated() - before;
    CHECK.due("bytes made by 400 mixes and gradings: " + made, made < 10_000, true);
    CHECK.end();
  }

  private static long allocated() {
    com.sun.management.ThreadMXBean bean = (com.sun.management.ThreadMXBean) ManagementFactory.getThreadMXBean();
    return bean.getThreadAllocatedBytes(Thread.currentThread().getId());
  }

  /** Ten lots of long, most frail cocoons, all drawn with twelve ends: the most pieces that skeins get. */
  private static int drawAll() {
    SilkMill x = new SilkMill();
    int calls = 0;
    byte[] text = "cast;cast;cast;cast;cast;cast;cast;cast;cast;cast;cast;cast;".getBytes(java.nio.charset.StandardCharsets.ISO_8859_1);
    for (int p = 0; p < 4; p++) {
      x.pot(100, 1);
      for (int i = 0; i < 60; i += 20) {
        x.feed(Check.word(text, i), Check.word(text, i + 4), Check.word(text, i + 8), Check.word(text, i + 12), Check.word(text, i + 16));
      }
      x.program(p);
      calls += 5;
    }
    for (int l = 0; l < 10; l++) {
      x.lot(60, l, 60, 200, 200);
      x.fill(l % 4, l, 0, 60);
      calls += 2;
    }
    while (calls < 508) {
      x.run(calls % 4, 300);
      calls++;
    }
    CHECK.due("all drawn", x.about(0, 0) + x.about(1, 0) + x.about(2, 0) + x.about(3, 0), 0);
    return calls + 4;
  }

  private static SilkMill flat() {
    SilkMill x = new SilkMill();
    x.lot(1, 318, 60, 200, 0);
    x.pot(64, 5);
    x.fill(0, 0, 0, 1);
    Check.program(x, 0, "cast;");
    for (int k = 0; k < 20; k++) {
      x.run(0, 5);
      x.cut(0);
    }
    return x;
  }

  private static void mixAndGrade(SilkMill x) {
    for (int i = 0; i < 200; i++) {
      x.mix(1 + i * 20, 0, 1000, false);
      x.grade(i % 20, i, 5);
    }
  }
}
