import java.util.NoSuchElementException;

/** Promises 6 to 8 and 13 to 16: pots, their targets and baskets, ticks and rules, what they show, cuts. */
public final class PotTest {
  private static final Check CHECK = new Check();
  private static final int FARTHEST = Integer.MAX_VALUE;
  private static final int LEAST = Integer.MIN_VALUE;

  public static void main(String[] args) {
    pots();
    targets();
    fills();
    runs();
    search();
    findAct();
    findAmongSeveral();
    spentAheadOfLost();
    lostInOrder();
    castUpToTwelve();
    dropTheThinnest();
    throwTheLast();
    stops();
    conditionsAsTheyAreComeTo();
    fields();
    longestSkein();
    rowsAndAbout();
    cutsAndWaste();
    CHECK.end();
  }

  private static void pots() {
    SilkMill x = new SilkMill();
    int[][] wrong = {{9, 1}, {2001, 1}, {10, 0}, {10, 51}, {LEAST, 1}, {FARTHEST, 1}, {10, LEAST}, {10, FARTHEST}};
    for (int[] w : wrong) {
      CHECK.due("wrong pot " + w[0] + ", " + w[1], x.pot(w[0], w[1]), SilkMill.NONE);
    }
    CHECK.due("count(1)", x.count(1), 0);
    CHECK.due("least pot", x.pot(10, 1), 0);
    CHECK.due("greatest pot", x.pot(2000, 50), 1);
    CHECK.due("third pot", x.pot(100, 5), 2);
    CHECK.due("fourth pot", x.pot(100, 5), 3);
    CHECK.due("a fifth pot", x.pot(100, 5), SilkMill.NONE);
    CHECK.due("count(1)", x.count(1), 4);
    for (int what = 0; what <= 9; what++) {
      CHECK.due("a new pot's " + what, x.about(3, what), 0);
    }
    CHECK.due("a new pot's TARGET", x.about(3, 10), 100);
    CHECK.due("no pot behind the last", x.about(4, 10), SilkMill.NONE);
    CHECK.due("no pot behind the last", x.run(4, 1), SilkMill.NONE);
    CHECK.dueThrow("no pot behind the last", () -> x.in(4, 0, 0), NoSuchElementException.class);
  }

  private static void targets() {
    SilkMill x = millOf(0, "if ends<1:cast;", 1);
    CHECK.due("below", x.target(0, 9), false);
    CHECK.due("above", x.target(0, 2001), false);
    CHECK.due("no such POT", x.target(1, 100), false);
    CHECK.due("no such POT", x.target(-1, 100), false);
    CHECK.due("as it was", x.about(0, 10), 100);
    x.run(0, 1);
    CHECK.due("least", x.target(0, 10), true);
    CHECK.due("now least", x.about(0, 10), 10);
    x.cut(0);
    CHECK.due("greatest", x.target(0, 2000), true);
    CHECK.due("now greatest", x.about(0, 10), 2000);
    CHECK.due("TARGET when CUT", x.skein(0, 11), 10);
  }

  private static void fills() {
    SilkMill x = new SilkMill();
    x.lot(5, 7, 30, 50, 0);
    x.lot(60, 8, 30, 50, 0);
    x.pot(100, 5);
    int[][] wrong = {{1, 0, 0, 1}, {-1, 0, 0, 1}, {0, 2, 0, 1}, {0, -1, 0, 1}, {0, 0, -1, 2}, {0, 0, 0, 0}, {0, 0, 0, -1},
        {0, 0, 0, 6}, {0, 0, 4, 2}, {0, 0, 5, 1}, {0, 1, 0, 61}, {0, 0, FARTHEST, 2}, {0, 0, 1, FARTHEST}, {0, 0, LEAST, 1}};
    for (int[] w : wrong) {
      CHECK.due("wrong fill " + java.util.Arrays.toString(w), x.fill(w[0], w[1], w[2], w[3]), false);
    }
    x.shelve(0, 0, 0, 2);
    CHECK.due("one is on the SHELF", x.fill(0, 0, 0, 4), false);
    CHECK.due("nothing done", x.about(0, 0), 0);
    CHECK.due("nothing done", x.cocoon(0, 0, 1), 0);
    CHECK.due("from 3 on", x.fill(0, 0, 3, 2), true);
    CHECK.due("from 0 on", x.fill(0, 0, 0, 2), true);
    CHECK.due("one is in a POT", x.fill(0, 0, 1, 1), false);
    int[] due = {3, 4, 0, 1};
    for (int i = 0; i < 4; i++) {
      CHECK.due("in the BASKET " + i, x.in(0, 0, i), due[i]);
    }
    CHECK.due("the last of sixty", x.fill(0, 1, 59, 1), true);
    CHECK.due("beyond it", x.fill(0, 1, 58, 3), false);
    CHECK.due("sixty, of which it is one", x.fill(0, 1, 0, 60), false);
    x.lot(60, 8, 30, 50, 0);
    CHECK.due("sixty", x.fill(0, 2, 0, 60), true);
    CHECK.due("all there", x.about(0, 0), 65);
    CHECK.due("the last of one LOT", x.in(0, 0, 4), 159);
    CHECK.due("the last", x.in(0, 0, 64), 259);
  }

  private static void runs() {
    SilkMill x = millOf(0, "if ends<1:cast;", 1);
    CHECK.due("no such POT", x.run(1, 1), SilkMill.NONE);
    CHECK.due("no such POT", x.run(-1, 1), SilkMill.NONE);
    CHECK.due("below", x.run(0, -1), SilkMill.NONE);
    CHECK.due("above", x.run(0, 301), SilkMill.NONE);
    CHECK.due("far above", x.run(0, FARTHEST), SilkMill.NONE);
    CHECK.due("no TICKS yet", x.about(0, 8), 0);
    CHECK.due("none", x.run(0, 0), 0);
    CHECK.due("46 metres, then nothing", x.run(0, 300), 46);
    CHECK.due("TICKS ever", x.about(0, 8), 300);
    CHECK.due("METRES ever", x.about(0, 7), 46);
    CHECK.due("a POT without a PROGRAM", x.pot(100, 5), 1);
    x.fill(1, 0, 1, 1);
    CHECK.due("draws nothing", x.run(1, 5), 0);
  }

  /** The cocoon of lot(1, 51, 30, 40, 10) breaks at place 2 alone. */
  private static SilkMill breakingAtTwo(int find, String program) {
    SilkMill x = new SilkMill();
    x.lot(1, 51, 30, 40, 10);
    x.pot(50, find);
    Check.program(x, 0, program);
    x.fill(0, 0, 0, 1);
    return x;
  }

  private static void search() {
    SilkMill x = breakingAtTwo(3, "if ends<1:cast;");
    CHECK.due("up to the break", x.run(0, 3), 3);
    CHECK.due("LOST", x.about(0, 2), 1);
    CHECK.due("SEARCH", x.about(0, 5), 0);
    CHECK.due("first tick", x.run(0, 1), 0);
    CHECK.due("SEARCH", x.about(0, 5), 1);
    CHECK.due("second tick", x.run(0, 1), 0);
    CHECK.due("SEARCH", x.about(0, 5), 2);
    CHECK.due("found, cast and drawn", x.run(0, 1), 1);
    CHECK.due("SEARCH", x.about(0, 5), 0);
    CHECK.due("LOST", x.about(0, 2), 0);
    CHECK.due("ENDS", x.about(0, 1), 1);
    CHECK.due("to its end", x.run(0, 300), 36);
    SilkMill y = breakingAtTwo(1, "if ends<1:cast;");
    CHECK.due("FIND 1 costs no tick", y.run(0, 4), 4);
    SilkMill z = breakingAtTwo(2, "if lost=1:stop 6;if ends<1:cast;");
    z.run(0, 4);
    CHECK.due("SEARCH goes on", z.about(0, 5), 1);
    z.run(0, 1);
    CHECK.due("while it stops, too", z.about(0, 0), 1);
    CHECK.due("STOP", z.about(0, 4), 4);
  }

  private static void findAct() {
    SilkMill x = breakingAtTwo(50, "if lost>0:find;if ends<1:cast;");
    x.run(0, 3);
    CHECK.due("find draws nothing", x.run(0, 1), 0);
    CHECK.due("STOP", x.about(0, 4), 1);
    CHECK.due("the rules behind it go on", x.about(0, 1), 1);
    CHECK.due("SEARCH is 0 at once", x.about(0, 5), 0);
    CHECK.due("second tick", x.run(0, 1), 0);
    CHECK.due("STOP", x.about(0, 4), 0);
    CHECK.due("third tick", x.run(0, 1), 1);
    SilkMill y = breakingAtTwo(50, "find;if ends<1:cast;");
    CHECK.due("without LOST ones nothing", y.run(0, 3), 3);
  }

  /** Two that break at place 0: the first LOST one is found first, and SEARCH goes on for the other. */
  private static void findAmongSeveral() {
    SilkMill x = new SilkMill();
    x.lot(1, 85, 30, 40, 10);
    x.lot(1, 85, 30, 40, 10);
    x.pot(50, 4);
    Check.program(x, 0, "if made=0:cast;if made=0:cast;");
    x.fill(0, 1, 0, 1);
    x.fill(0, 0, 0, 1);
    CHECK.due("one metre", x.run(0, 5), 1);
    CHECK.due("SEARCH started anew", x.about(0, 5), 0);
    CHECK.due("the first one is found", x.in(0, 0, 0), 100);
    CHECK.due("its STAND", x.cocoon(1, 0, 1), 1);
    CHECK.due("the other is LOST", x.in(0, 2, 0), 0);
    x.run(0, 2);
    CHECK.due("SEARCH", x.about(0, 5), 2);
    Check.program(x, 0, "find;");
    x.run(0, 1);
    CHECK.due("behind the other", x.in(0, 0, 1), 0);
    CHECK.due("SEARCH", x.about(0, 5), 0);
  }

  private static void spentAheadOfLost() {
    SilkMill x = new SilkMill();
    x.lot(1, 515, 30, 40, 10);
    x.pot(50, 5);
    Check.program(x, 0, "cast;");
    x.fill(0, 0, 0, 1);
    CHECK.due("its whole length", x.run(0, 60), 44);
    CHECK.due("SPENT, though it breaks at the last place", x.cocoon(0, 0, 1), 4);
    CHECK.due("none LOST", x.about(0, 2), 0);
    CHECK.due("no ENDS", x.about(0, 1), 0);
  }

  /** Ends that break at places 0, none, 0 and 1: the rest keep their order. */
  private static void lostInOrder() {
    SilkMill x = new SilkMill();
    x.lot(1, 85, 30, 40, 10);
    x.lot(3, 7, 30, 50, 0);
    x.lot(1, 85, 30, 40, 10);
    x.lot(1, 68, 30, 40, 10);
    x.pot(50, 50);
    Check.program(x, 0, "cast;cast;cast;cast;cast;");
    x.fill(0, 3, 0, 1);
    x.fill(0, 2, 0, 1);
    x.fill(0, 1, 1, 1);
    x.fill(0, 0, 0, 1);
    x.fill(0, 1, 0, 1);
    x.run(0, 1);
    rows(x, 1, 300, 101, 100);
    rows(x, 2, 200, 0);
    x.run(0, 1);
    rows(x, 1, 101, 100);
    rows(x, 2, 200, 0, 300);
    CHECK.dueThrow("where an END was", () -> x.in(0, 1, 2), NoSuchElementException.class);
    CHECK.dueThrow("where one of the BASKET was", () -> x.in(0, 0, 0), NoSuchElementException.class);
  }

  private static void rows(SilkMill x, int row, int... due) {
    CHECK.due("size of row " + row, x.about(0, row), due.length);
    for (int i = 0; i < due.length; i++) {
      CHECK.due("in row " + row + " at " + i, x.about(0, row) > i ? x.in(0, row, i) : SilkMill.NONE, due[i]);
    }
  }

  private static SilkMill millOf(int frail, String program, int n) {
    SilkMill x = new SilkMill();
    x.lot(15, 7, 30, 50, frail);
    x.pot(100, 5);
    Check.program(x, 0, program);
    x.fill(0, 0, 0, n);
    return x;
  }

  private static void castUpToTwelve() {
    SilkMill x = millOf(0, "cast;cast;cast;cast;cast;cast;cast;cast;cast;cast;cast;", 14);
    x.run(0, 1);
    CHECK.due("eleven ENDS", x.about(0, 1), 11);
    x.run(0, 1);
    CHECK.due("twelve ENDS", x.about(0, 1), 12);
    CHECK.due("two stay", x.about(0, 0), 2);
    SilkMill y = millOf(0, "cast;cast;", 1);
    CHECK.due("cast without a BASKET", y.run(0, 2), 2);
    CHECK.due("one END", y.about(0, 1), 1);
  }

  /** The bases of lot(9, 5, 30, 60, 0) are 31, 26, 31, 33, 28, 33, 28, 31, 26. */
  private static void dropTheThinnest() {
    SilkMill x = new SilkMill();
    x.lot(9, 5, 30, 60, 0);
    x.pot(100, 5);
    Check.program(x, 0, "cast;cast;cast;cast;cast;cast;cast;cast;cast;");
    x.fill(0, 0, 0, 9);
    x.run(0, 1);
    Check.program(x, 0, "drop;");
    x.run(0, 1);
    rows(x, 0, 1);
    rows(x, 1, 0, 2, 3, 4, 5, 6, 7, 8);
    CHECK.due("STAND", x.cocoon(0, 1, 1), 1);
    CHECK.due("not drawn then", x.cocoon(0, 1, 2), 1);
    x.run(0, 1);
    rows(x, 0, 8, 1);
    Check.program(x, 0, "drop;drop;drop;drop;drop;drop;drop;drop;drop;drop;");
    CHECK.due("without ENDS nothing", x.run(0, 1), 0);
    CHECK.due("all in the BASKET", x.about(0, 0), 9);
  }

  private static void throwTheLast() {
    SilkMill x = millOf(0, "throw;cast;", 3);
    CHECK.due("one metre", x.run(0, 1), 1);
    CHECK.due("the last is THROWN", x.cocoon(0, 2, 1), 6);
    CHECK.due("its SILK", x.count(10), 859);
    Check.program(x, 0, "cast;drop;throw;drop;throw;throw;throw;");
    CHECK.due("nothing left", x.run(0, 1), 0);
    CHECK.due("THROWN", x.cocoon(0, 0, 1), 6);
    CHECK.due("less what was drawn", x.count(10), 859 + 1145 + 1237 - 31);
    CHECK.due("in no POT", x.cocoon(0, 0, 6), SilkMill.NONE);
  }

  private static void stops() {
    SilkMill x = millOf(0, "stop 2;cast;", 5);
    CHECK.due("stopped", x.run(0, 4), 0);
    CHECK.due("rules only when STOP is 0", x.about(0, 1), 2);
    SilkMill y = millOf(0, "stop 9999;stop 0003;if ends=0:cast;", 5);
    y.run(0, 1);
    CHECK.due("they add up", y.about(0, 4), 10001);
    SilkMill z = millOf(0, "stop 0;if ends<1:cast;", 5);
    CHECK.due("stop 0 does not stop", z.run(0, 4), 4);
    SilkMill w = millOf(0, "stop 1;if ends<1:cast;", 5);
    CHECK.due("stop 1 each tick", w.run(0, 4), 0);
  }

  private static void conditionsAsTheyAreComeTo() {
    SilkMill x = millOf(0, "cast;if ends=1:cast;if ends=2 and basket=3:cast;if ends=2:drop;if made=0 and ends=4:cast;", 5);
    x.run(0, 1);
    CHECK.due("each as it is come to", x.about(0, 1), 3);
    SilkMill y = millOf(0, "if made=2:cut;if made=0:cast;", 5);
    y.run(0, 3);
    CHECK.due("made behind cut", y.about(0, 1), 2);
    CHECK.due("a SKEIN of two", y.skein(0, 2), 2);
    CHECK.due("cut without METRES", Check.program(y, 0, "cut;cut;cut;"), 3);
    y.run(0, 1);
    CHECK.due("cuts once", y.count(2), 2);
  }

  /** Two ends of fineness 31 and 33, three in the basket, one lost, three metres, on day 2. */
  private static SilkMill atThree() {
    SilkMill x = new SilkMill();
    x.lot(1, 51, 30, 40, 10);
    x.lot(5, 7, 30, 50, 0);
    x.pot(100, 50);
    x.fill(0, 0, 0, 1);
    x.fill(0, 1, 0, 5);
    Check.program(x, 0, "if made=0:cast;if made=0:cast;if made=0:cast;");
    x.run(0, 3);
    x.day();
    x.day();
    return x;
  }

  private static void fields() {
    String[] names = {"fine", "ends", "basket", "lost", "made", "thin", "day"};
    int[] values = {64, 2, 3, 1, 3, 31, 2};
    for (int f = 0; f < names.length; f++) {
      for (int by = -1; by <= 1; by++) {
        int n = values[f] + by;
        holds(names[f] + "<" + n, atThree(), by > 0);
        holds(names[f] + "=" + n, atThree(), by == 0);
        holds(names[f] + ">" + n, atThree(), by < 0);
      }
    }
    holds("ends=2 and basket=3 and lost=1 and made=3", atThree(), true);
    holds("ends=1 and basket=3 and lost=1 and made=3", atThree(), false);
    holds("ends=2 and basket=3 and lost=1 and made=4", atThree(), false);
    holds("thin=0 and fine=0", millOf(0, "", 2), true);
    holds("thin<9999", atThree(), true);
  }

  private static void holds(String condition, SilkMill x, boolean due) {
    Check.program(x, 0, "if " + condition + ":stop 5;");
    x.run(0, 1);
    CHECK.due(condition, x.about(0, 4), due ? 4 : 0);
  }

  private static void longestSkein() {
    SilkMill x = new SilkMill();
    x.lot(2, 318, 60, 200, 0);
    x.pot(100, 5);
    Check.program(x, 0, "if ends<1:cast;");
    x.fill(0, 0, 0, 2);
    CHECK.due("299", x.run(0, 299), 299);
    CHECK.due("none kept", x.count(2), 0);
    CHECK.due("one more", x.run(0, 1), 1);
    CHECK.due("it is CUT at once", x.count(2), 1);
    CHECK.due("a new one", x.about(0, 3), 0);
    CHECK.due("300 METRES", x.skein(0, 2), 300);
    CHECK.due("METRES ever", x.about(0, 7), 300);
    CHECK.due("SILK that grows", x.count(8), 0);
    CHECK.due("the rest", x.run(0, 300), 134);
  }

  private static void rowsAndAbout() {
    SilkMill x = atThree();
    int[] due = {3, 2, 1, 3, 0, 0, 64, 3, 3, 3, 100};
    for (int what = 0; what < due.length; what++) {
      CHECK.due("about(0, " + what + ")", x.about(0, what), due[what]);
    }
    int[][] wrong = {{0, -1}, {0, 11}, {1, 0}, {-1, 0}, {FARTHEST, 0}, {0, FARTHEST}, {0, LEAST}};
    for (int[] w : wrong) {
      CHECK.due("wrong about " + w[0] + ", " + w[1], x.about(w[0], w[1]), SilkMill.NONE);
    }
    rows(x, 0, 102, 103, 104);
    rows(x, 1, 100, 101);
    rows(x, 2, 0);
    int[][] none = {{0, 0, 3}, {0, 1, 2}, {0, 2, 1}, {0, 0, -1}, {0, 3, 0}, {0, -1, 0}, {1, 0, 0}, {-1, 0, 0}, {0, 0, FARTHEST},
        {0, 0, LEAST}, {FARTHEST, 0, 0}};
    for (int[] w : none) {
      CHECK.dueThrow("in " + java.util.Arrays.toString(w), () -> x.in(w[0], w[1], w[2]), NoSuchElementException.class);
    }
  }

  private static void cutsAndWaste() {
    SilkMill x = new SilkMill();
    x.lot(1, 318, 60, 200, 0);
    x.pot(100, 5);
    CHECK.due("no such POT", x.cut(1), SilkMill.NONE);
    CHECK.due("no such POT", x.cut(-1), SilkMill.NONE);
    CHECK.due("no METRES", x.cut(0), SilkMill.NONE);
    Check.program(x, 0, "cut;if ends<1:cast;");
    x.fill(0, 0, 0, 1);
    CHECK.due("41 metres", x.run(0, 41), 41);
    CHECK.due("40 SKEINS", x.count(2), 40);
    CHECK.due("the last one's pot", x.skein(39, 0), 0);
    CHECK.due("40 are there", x.cut(0), -2);
    CHECK.due("WASTE", x.count(9), 66);
    CHECK.due("a new one begins", x.about(0, 3), 0);
    CHECK.due("without METRES", x.cut(0), SilkMill.NONE);
    CHECK.due("cut by the rules", x.run(0, 3), 3);
    CHECK.due("WASTE", x.count(9), 66 * 3);
    CHECK.due("grows", x.count(8), 66);
    CHECK.due("kept", x.count(7), 28 * 64 + 12 * 66);
    CHECK.due("drawn ever", x.count(6), 28 * 64 + 16 * 66);
    CHECK.due("40 SKEINS still", x.count(2), 40);
    CHECK.due("no such", x.skein(40, 0), SilkMill.NONE);
  }
}
