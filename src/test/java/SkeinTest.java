import java.util.Arrays;

/** Promises 16 to 21: skeins that were cut, their metres and pieces, their grades by drawn metres. */
public final class SkeinTest {
  private static final Check CHECK = new Check();
  private static final int FARTHEST = Integer.MAX_VALUE;
  private static final int LEAST = Integer.MIN_VALUE;

  public static void main(String[] args) {
    piecesAndMetres();
    piecesOverABreak();
    manyPieces();
    slips();
    aboutASkein();
    wrongNumbers();
    gradesByOff();
    drawnMetres();
    bounds();
    latestGrading();
    CHECK.end();
  }

  private static void rules(SilkMill x, String text, int ticks) {
    Check.program(x, 0, text);
    x.run(0, ticks);
  }

  /** Cocoon 0 (31) is dropped for one metre, and once dropped and cast again within one tick. */
  private static void piecesAndMetres() {
    SilkMill x = new SilkMill();
    x.lot(1, 1, 30, 50, 0);
    x.lot(3, 7, 30, 50, 0);
    x.pot(64, 5);
    x.fill(0, 1, 0, 3);
    rules(x, "if made=0:cast;if made=0:cast;", 2);
    rules(x, "drop;", 1);
    rules(x, "if ends=1:cast;", 2);
    rules(x, "drop;if ends<2:cast;", 1);
    CHECK.due("its number", x.cut(0), 0);
    pieces(x, 0, new int[][] {{1, 0, 0, 2, 0}, {1, 1, 0, 6, 0}, {1, 0, 3, 3, 2}});
    metres(x, 0, new int[][] {{64, 2}, {64, 2}, {33, 1}, {64, 2}, {64, 2}, {65, 2}});
    rules(x, "if ends<3:cast;", 1);
    CHECK.due("its number", x.cut(0), 1);
    pieces(x, 1, new int[][] {{1, 1, 0, 1, 6}, {1, 0, 0, 1, 5}, {1, 2, 0, 1, 0}});
    metres(x, 1, new int[][] {{94, 3}});
    CHECK.due("WEIGHT", x.skein(0, 3), 64 + 64 + 33 + 64 + 64 + 65);
  }

  /** Lost behind metre 2: found at once it goes on in metre 3, so it is one piece; else metres without it lie between. */
  private static void piecesOverABreak() {
    SilkMill x = new SilkMill();
    x.lot(1, 51, 30, 40, 10);
    x.lot(1, 7, 30, 50, 0);
    x.pot(64, 3);
    x.fill(0, 0, 0, 1);
    Check.program(x, 0, "cast;");
    x.run(0, 8);
    x.cut(0);
    pieces(x, 0, new int[][] {{0, 0, 0, 6, 0}});
    SilkMill y = new SilkMill();
    y.lot(1, 51, 30, 40, 10);
    y.lot(1, 7, 30, 50, 0);
    y.pot(64, 3);
    y.fill(0, 0, 0, 1);
    y.fill(0, 1, 0, 1);
    Check.program(y, 0, "cast;cast;");
    y.run(0, 8);
    y.cut(0);
    pieces(y, 0, new int[][] {{0, 0, 0, 3, 0}, {1, 0, 0, 8, 0}, {0, 0, 5, 3, 3}});
  }

  /** Of a mill no more than 512 answers are promised: one that was led to the same state goes on in its stead. */
  private static final class Frail {
    private SilkMill mill = anew();
    private int left = 400;

    private static SilkMill anew() {
      SilkMill x = new SilkMill();
      x.lot(60, 3, 40, 100, 200);
      x.pot(64, 2);
      x.fill(0, 0, 0, 60);
      rules(x, "cast;cast;cast;drop;cast;", 200);
      x.cut(0);
      return x;
    }

    SilkMill mill() {
      if (left == 0) {
        mill = anew();
        left = 400;
      }
      left--;
      return mill;
    }
  }

  /** Of most frail cocoons: all pieces together are just what was drawn, metre by metre and place by place. */
  private static void manyPieces() {
    Frail x = new Frail();
    int metres = x.mill().skein(0, 2);
    int pieces = x.mill().skein(0, 7);
    CHECK.due("many pieces", pieces > 130, true);
    int[] fineness = new int[metres];
    int[] ends = new int[metres];
    int[] drawn = new int[60];
    int latest = 0;
    for (int i = 0; i < pieces; i++) {
      int worm = x.mill().piece(0, i, 1);
      int first = x.mill().piece(0, i, 2);
      int many = x.mill().piece(0, i, 3);
      int place = x.mill().piece(0, i, 4);
      CHECK.due("it goes on where it was", place, drawn[worm]);
      CHECK.due("in order", first >= latest, true);
      for (int j = 0; j < many; j++) {
        fineness[first + j] += x.mill().fineness(0, worm, place + j);
        ends[first + j]++;
      }
      drawn[worm] += many;
      latest = first;
    }
    for (int m = 0; m < metres; m++) {
      CHECK.due("FINENESS of metre " + m, x.mill().metre(0, m, 0), fineness[m]);
      CHECK.due("ENDS of metre " + m, x.mill().metre(0, m, 1), ends[m]);
    }
    for (int i = 0; i < 60; i++) {
      CHECK.due("drawn of " + i, x.mill().cocoon(0, i, 2), drawn[i]);
    }
  }

  private static void pieces(SilkMill x, int k, int[][] due) {
    CHECK.due("PIECES of " + k, x.skein(k, 7), due.length);
    for (int i = 0; i < due.length; i++) {
      for (int what = 0; what < 5; what++) {
        CHECK.due("piece(" + k + ", " + i + ", " + what + ")", x.piece(k, i, what), due[i][what]);
      }
    }
    CHECK.due("beyond the PIECES", x.piece(k, due.length, 0), SilkMill.NONE);
  }

  private static void metres(SilkMill x, int k, int[][] due) {
    CHECK.due("METRES of " + k, x.skein(k, 2), due.length);
    for (int m = 0; m < due.length; m++) {
      CHECK.due("metre(" + k + ", " + m + ", 0)", x.metre(k, m, 0), due[m][0]);
      CHECK.due("metre(" + k + ", " + m + ", 1)", x.metre(k, m, 1), due[m][1]);
    }
    CHECK.due("beyond the METRES", x.metre(k, due.length, 0), SilkMill.NONE);
  }

  /** The lone cocoon of lot(3, 7, ..), number 0, runs 31 .. 32 .. 31 .. 30 .. 27 .. 25 .. 21 .. 17: each step is 4 at most. */
  private static void slips() {
    SilkMill x = new SilkMill();
    x.lot(3, 7, 30, 50, 0);
    x.pot(64, 5);
    x.fill(0, 0, 0, 1);
    rules(x, "cast;", 46);
    x.cut(0);
    CHECK.due("differences of 4 are none", x.skein(0, 6), 0);
    CHECK.due("SPAN, least", x.skein(0, 4), 17);
    CHECK.due("SPAN, greatest", x.skein(0, 5), 32);
    CHECK.due("WEIGHT", x.skein(0, 3), 1237);
    // lot(1, 318, ..): of length 220 and base 64 it steps 66, 65, 62, 57, 51, 44, 37
    x.lot(1, 318, 60, 200, 0);
    x.fill(0, 1, 0, 1);
    rules(x, "cast;", 220);
    x.cut(0);
    CHECK.due("differences of 5 and more are", x.skein(1, 6), 4);
  }

  private static void aboutASkein() {
    SilkMill x = new SilkMill();
    x.lot(3, 7, 30, 50, 0);
    x.pot(999, 5);
    x.pot(62, 5);
    x.fill(1, 0, 0, 3);
    Check.program(x, 1, "if fine < 40 : cast;");
    x.run(1, 3);
    x.day();
    x.day();
    x.target(1, 63);
    CHECK.due("cut(1)", x.cut(1), 0);
    x.target(1, 64);
    x.day();
    int[] due = {1, 2, 3, 159, 31, 64, 1, 2, 3, 0, 31, 63};
    for (int what = 0; what < due.length; what++) {
      CHECK.due("skein(0, " + what + ")", x.skein(0, what), due[what]);
    }
  }

  private static void wrongNumbers() {
    SilkMill x = flat(3, 64);
    int[][] wrong = {{-1, 0}, {1, 0}, {0, -1}, {0, 12}, {LEAST, 0}, {FARTHEST, 0}, {0, LEAST}, {0, FARTHEST}};
    for (int[] w : wrong) {
      CHECK.due("wrong skein " + Arrays.toString(w), x.skein(w[0], w[1]), SilkMill.NONE);
    }
    int[][] nowhere = {{-1, 0, 0}, {1, 0, 0}, {0, -1, 0}, {0, 3, 0}, {0, 0, -1}, {0, 0, 5}, {LEAST, 0, 0}, {FARTHEST, 0, 0},
        {0, LEAST, 0}, {0, FARTHEST, 0}, {0, 0, LEAST}, {0, 0, FARTHEST}};
    for (int[] w : nowhere) {
      CHECK.due("wrong metre " + Arrays.toString(w), x.metre(w[0], w[1], w[2]), SilkMill.NONE);
      CHECK.due("wrong piece " + Arrays.toString(w), x.piece(w[0], w[1], w[2]), SilkMill.NONE);
    }
    CHECK.due("metre has two", x.metre(0, 0, 2), SilkMill.NONE);
    int[][] ungraded = {{1, 1}, {-1, 1}, {0, 0}, {0, -1}, {0, 4}, {0, 6}, {LEAST, 1}, {FARTHEST, 1}, {0, LEAST}, {0, FARTHEST}};
    for (int[] w : ungraded) {
      CHECK.due("wrong grade " + Arrays.toString(w), x.grade(w[0], 1, w[1]), SilkMill.NONE);
    }
    CHECK.due("nothing drawn yet", x.drawn(0), SilkMill.NONE);
    CHECK.due("nothing drawn yet", x.drawn(2), SilkMill.NONE);
  }

  /** A skein of n metres (28 at most) of fineness 64 each, cut at a target. */
  private static SilkMill flat(int n, int target) {
    SilkMill x = new SilkMill();
    x.lot(1, 318, 60, 200, 0);
    x.pot(target, 5);
    x.fill(0, 0, 0, 1);
    rules(x, "cast;", n);
    x.cut(0);
    return x;
  }

  private static void gradesByOff() {
    int[][] due = {{0, 0}, {3, 0}, {4, 1}, {8, 1}, {9, 2}, {20, 2}, {21, 3}};
    for (int[] d : due) {
      for (int sign = -1; sign <= 1; sign += 2) {
        SilkMill x = flat(4, 64 + sign * d[0]);
        CHECK.due("never graded", x.skein(0, 8), 3);
        CHECK.due("grade off " + sign * d[0], x.grade(0, 1, 2), d[1]);
        CHECK.due("OFF", x.drawn(0), d[0]);
        CHECK.due("GRADE", x.skein(0, 8), d[1]);
      }
    }
    // metres 31, 64, 64 with target 62: the greatest difference counts, of those drawn alone
    SilkMill x = new SilkMill();
    x.lot(3, 7, 30, 50, 0);
    x.pot(62, 5);
    x.fill(0, 0, 0, 3);
    rules(x, "if fine < 40 : cast;", 3);
    x.cut(0);
    x.target(0, 31);
    CHECK.due("all of them", x.grade(0, 0, 3), 3);
    CHECK.due("OFF of all", x.drawn(0), 31);
    for (int seed = 0; seed < 6; seed++) {
      int grade = x.grade(0, seed, 1);
      CHECK.due("one of them", grade, x.drawn(2) == 0 ? 3 : 0);
      CHECK.due("OFF of one", x.drawn(0), x.drawn(2) == 0 ? 31 : 2);
    }
  }

  private static void drawnMetres() {
    int[][] due = {{0, 0, 2, 1, 3, 4}, {1, 2, 0, 3, 4, 5}, {2, 4, 5, 0, 1, 3}, {4, 5, 0, 1, 2, 3}, {8, 4, 5, 0, 1, 2},
        {17, 5, 0, 1, 3, 2}, {33, 2, 5, 1, 3, 0}};
    SilkMill x = flat(6, 64);
    for (int[] d : due) {
      for (int n = 1; n <= 5; n++) {
        x.grade(0, d[0], n);
        for (int i = 0; i < 6; i++) {
          CHECK.due("seed " + d[0] + ", " + n + " drawn, number " + i, x.drawn(2 + i), i < n ? d[1 + i] : SilkMill.NONE);
        }
      }
    }
    CHECK.due("no more than five", x.grade(0, 1, 6), SilkMill.NONE);
    SilkMill y = flat(1, 64);
    CHECK.due("the one there is", y.grade(0, LEAST, 1), 0);
    CHECK.due("it", y.drawn(2), 0);
    CHECK.due("others", y.drawn(3), SilkMill.NONE);
    CHECK.due("others", y.drawn(-1), SilkMill.NONE);
    CHECK.due("others", y.drawn(LEAST), SilkMill.NONE);
    CHECK.due("others", y.drawn(FARTHEST), SilkMill.NONE);
  }

  private static void bounds() {
    int[][] due = {{1, 1, 0}, {2, 1, 1}, {6, 5, 1}, {4, 2, 2}, {5, 5, 0}, {6, 2, 4}, {10, 3, 5}, {19, 1, 18}, {20, 1, 19}, {21, 1, 19}};
    for (int[] d : due) {
      SilkMill x = flat(d[0], 64);
      x.grade(0, 7, d[1]);
      CHECK.due("BOUND of " + d[1] + " among " + d[0], x.drawn(1), d[2]);
    }
    SilkMill x = new SilkMill();
    x.lot(2, 318, 60, 200, 0);
    x.pot(100, 5);
    x.fill(0, 0, 0, 2);
    rules(x, "if ends<1:cast;", 300);
    x.grade(0, 7, 1);
    CHECK.due("BOUND of 1 among 300", x.drawn(1), 285);
    x.grade(0, 7, 2);
    CHECK.due("BOUND of 2 among 300", x.drawn(1), 232);
    x.grade(0, 7, 5);
    CHECK.due("BOUND of 5 among 300", x.drawn(1), 134);
  }

  private static void latestGrading() {
    SilkMill x = flat(5, 64);
    x.target(0, 60);
    x.run(0, 2);
    x.cut(0);
    x.grade(1, 3, 2);
    x.grade(0, 3, 5);
    CHECK.due("GRADE of 0", x.skein(0, 8), 0);
    CHECK.due("GRADE of 1", x.skein(1, 8), 1);
    CHECK.due("the latest", x.drawn(0), 0);
    CHECK.due("all five", x.drawn(6), 4);
    CHECK.due("d is too much", x.grade(1, 3, 3), SilkMill.NONE);
    CHECK.due("still the latest", x.drawn(6), 4);
    CHECK.due("GRADE stays", x.skein(1, 8), 1);
    x.grade(1, 3, 1);
    CHECK.due("the latest now", x.drawn(0), 4);
    CHECK.due("one drawn", x.drawn(3), SilkMill.NONE);
  }
}
