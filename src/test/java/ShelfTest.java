import java.util.Arrays;

/** Promises 22 to 25: the shelf, its cocoons, numbers and words. */
public final class ShelfTest {
  private static final Check CHECK = new Check();
  private static final int FARTHEST = Integer.MAX_VALUE;
  private static final int LEAST = Integer.MIN_VALUE;

  public static void main(String[] args) {
    shelving();
    cocoons();
    numbers();
    words();
    wrongTakes();
    copies();
    wrongCopies();
    copiesWithinOneWord();
    numbersOfWords();
    CHECK.end();
  }

  private static SilkMill mill() {
    SilkMill x = new SilkMill();
    x.lot(2, 9, 30, 50, 0);
    x.lot(3, 7, 30, 50, 0);
    return x;
  }

  private static void shelving() {
    SilkMill x = mill();
    int[][] wrong = {{-1, 1, 5, 0}, {16, 1, 5, 0}, {LEAST, 1, 5, 0}, {FARTHEST, 1, 5, 0}, {0, -1, 5, 0}, {0, 3, 5, 0},
        {0, LEAST, 5, 0}, {0, FARTHEST, 5, 0}, {0, 0, 2, 0}, {0, 0, -1, 0}, {0, 0, 0, 2}, {0, 0, 0, -1}, {0, 2, 9, 1}, {0, 2, -1, 1},
        {0, 2, LEAST, 1}, {0, 2, FARTHEST, 1}};
    for (int[] w : wrong) {
      CHECK.due("wrong shelve " + Arrays.toString(w), x.shelve(w[0], w[1], w[2], w[3]), false);
    }
    CHECK.due("nothing there", x.count(11), 0);
    for (int place = 0; place < 16; place++) {
      CHECK.due("PLACE " + place, x.shelve(place, 1, place, 0), true);
      CHECK.due("it is not empty", x.shelve(place, 1, 7, 0), false);
      CHECK.due("for a WORD neither", x.shelve(place, 2, 1, 0), false);
      CHECK.due("for a COCOON neither", x.shelve(place, 0, 0, 0), false);
      CHECK.due("things", x.count(11), place + 1);
    }
    CHECK.due("the COCOON stays", x.cocoon(0, 0, 1), 0);
    CHECK.due("the first NUMBER stays", x.take(3, 1), 3);
    CHECK.due("things", x.count(11), 15);
    CHECK.due("empty again", x.shelve(3, 1, 8, 0), true);
  }

  private static void cocoons() {
    SilkMill x = mill();
    CHECK.due("a COCOON", x.shelve(4, 0, 1, 2), true);
    CHECK.due("STAND", x.cocoon(1, 2, 1), 5);
    CHECK.due("not twice", x.shelve(5, 0, 1, 2), false);
    x.pot(100, 5);
    CHECK.due("not into a POT", x.fill(0, 1, 2, 1), false);
    CHECK.due("as a NUMBER", x.take(4, 1), -3);
    CHECK.due("as a WORD", x.take(4, 2), -3);
    CHECK.due("it stays", x.cocoon(1, 2, 1), 5);
    CHECK.due("as a COCOON", x.take(4, 0), 102);
    CHECK.due("in its LOT again", x.cocoon(1, 2, 1), 0);
    CHECK.due("gone", x.take(4, 0), -2);
    CHECK.due("into a POT now", x.fill(0, 1, 2, 1), true);
    CHECK.due("one in a POT", x.shelve(4, 0, 1, 2), false);
    CHECK.due("COCOON 0 of LOT 0", x.shelve(4, 0, 0, 0), true);
    CHECK.due("its number", x.take(4, 0), 0);
  }

  private static void numbers() {
    SilkMill x = mill();
    int[] all = {0, -1, -2, -3, -4, 5, LEAST, FARTHEST};
    for (int v : all) {
      CHECK.due("shelve " + v, x.shelve(0, 1, v, 99), true);
      CHECK.due("as a COCOON", x.take(0, 0), -3);
      CHECK.due("as a WORD", x.take(0, 2), -3);
      CHECK.due("as a NUMBER", x.take(0, 1), v);
      CHECK.due("things", x.count(11), 0);
      CHECK.due("gone", x.take(0, 1), -2);
    }
  }

  private static void words() {
    SilkMill x = mill();
    for (int n = 1; n <= 8; n++) {
      CHECK.due("a WORD of " + n, x.shelve(15, 2, n, -3), true);
      CHECK.due("as a COCOON", x.take(15, 0), -3);
      CHECK.due("as a NUMBER", x.take(15, 1), -3);
      CHECK.due("the sum", x.take(15, 2), -3 * n);
      CHECK.due("gone", x.take(15, 2), -2);
    }
    CHECK.due("a row that is missing", x.shelve(15, 2, 0, 5), true);
    CHECK.due("a thing", x.count(11), 1);
    CHECK.due("its row is missing", x.take(15, 2), -4);
    CHECK.due("as a NUMBER", x.take(15, 1), -3);
    CHECK.due("as a COCOON", x.take(15, 0), -3);
    CHECK.due("it stays", x.take(15, 2), -4);
    CHECK.due("not empty", x.shelve(15, 1, 1, 1), false);
    CHECK.due("a thing", x.count(11), 1);
  }

  private static void wrongTakes() {
    SilkMill x = mill();
    x.shelve(0, 1, 5, 0);
    int[][] wrong = {{-1, 1}, {16, 1}, {LEAST, 1}, {FARTHEST, 1}, {0, -1}, {0, 3}, {0, LEAST}, {0, FARTHEST}, {1, 3}};
    for (int[] w : wrong) {
      CHECK.due("wrong take " + Arrays.toString(w), x.take(w[0], w[1]), SilkMill.NONE);
    }
    CHECK.due("it stays", x.take(0, 1), 5);
  }

  /** A WORD of four ones on place 4, one of three nines on place 5. */
  private static SilkMill twoWords() {
    SilkMill x = mill();
    x.shelve(4, 2, 4, 1);
    x.shelve(5, 2, 3, 9);
    x.shelve(6, 2, 0, 9);
    x.shelve(7, 1, 9, 9);
    return x;
  }

  private static void word(SilkMill x, int place, int... due) {
    for (int i = 0; i < due.length; i++) {
      CHECK.due("number(" + place + ", " + i + ")", x.number(place, i), due[i]);
    }
    CHECK.due("beyond it", x.number(place, due.length), SilkMill.NONE);
  }

  private static void copies() {
    SilkMill x = twoWords();
    CHECK.due("two of them", x.copy(5, 1, 4, 1, 2), true);
    word(x, 4, 1, 9, 9, 1);
    word(x, 5, 9, 9, 9);
    CHECK.due("back", x.copy(4, 2, 5, 0, 2), true);
    word(x, 5, 9, 1, 9);
    CHECK.due("none", x.copy(5, 0, 4, 0, 0), true);
    CHECK.due("none, at both ends", x.copy(5, 3, 4, 4, 0), true);
    CHECK.due("all", x.copy(5, 0, 4, 1, 3), true);
    word(x, 4, 1, 9, 1, 9);
    CHECK.due("the sum", x.take(4, 2), 20);
  }

  private static void wrongCopies() {
    SilkMill x = twoWords();
    int[][] wrong = {{-1, 0, 4, 0, 0}, {16, 0, 4, 0, 0}, {5, 0, -1, 0, 0}, {5, 0, 16, 0, 0}, {0, 0, 4, 0, 0}, {5, 0, 0, 0, 0},
        {7, 0, 4, 0, 0}, {5, 0, 7, 0, 0}, {6, 0, 4, 0, 0}, {5, 0, 6, 0, 0}, {5, 0, 4, 0, -1}, {5, -1, 4, 0, 1}, {5, 0, 4, -1, 1},
        {5, 0, 4, 0, 4}, {5, 2, 4, 0, 2}, {5, 0, 4, 3, 2}, {5, 4, 4, 0, 0}, {5, 0, 4, 5, 0}, {5, FARTHEST, 4, 0, 1},
        {5, 1, 4, 0, FARTHEST}, {5, 0, 4, FARTHEST, 1}, {5, LEAST, 4, 0, 1}, {5, 0, 4, LEAST, 1}, {5, 0, 4, 0, LEAST},
        {FARTHEST, 0, 4, 0, 1}, {5, 0, LEAST, 0, 1}, {5, -1, 4, 0, 0}, {5, 0, 4, -1, 0}};
    for (int[] w : wrong) {
      CHECK.due("wrong copy " + Arrays.toString(w), x.copy(w[0], w[1], w[2], w[3], w[4]), false);
    }
    word(x, 4, 1, 1, 1, 1);
    word(x, 5, 9, 9, 9);
  }

  private static void copiesWithinOneWord() {
    SilkMill x = mill();
    x.shelve(0, 2, 5, 0);
    for (int i = 0; i < 5; i++) {
      x.shelve(1, 2, 1, i);
      x.copy(1, 0, 0, i, 1);
      x.take(1, 2);
    }
    CHECK.due("onto itself", x.copy(0, 0, 0, 1, 4), true);
    word(x, 0, 0, 0, 1, 2, 3);
    CHECK.due("and back", x.copy(0, 2, 0, 0, 3), true);
    word(x, 0, 1, 2, 3, 2, 3);
  }

  private static void numbersOfWords() {
    SilkMill x = twoWords();
    int[][] wrong = {{-1, 0}, {16, 0}, {0, 0}, {6, 0}, {7, 0}, {5, -1}, {5, 3}, {LEAST, 0}, {FARTHEST, 0}, {5, LEAST}, {5, FARTHEST}};
    for (int[] w : wrong) {
      CHECK.due("wrong number " + Arrays.toString(w), x.number(w[0], w[1]), SilkMill.NONE);
    }
    x.take(5, 2);
    CHECK.due("taken away", x.number(5, 0), SilkMill.NONE);
    x.shelve(5, 2, 2, 7);
    word(x, 5, 7, 7);
    x.shelve(8, 0, 0, 0);
    CHECK.due("of a COCOON", x.number(8, 0), SilkMill.NONE);
  }
}
