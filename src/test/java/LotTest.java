/** Promises 1 to 5: a new object, lots, cocoons, their fineness, and tests of them. */
public final class LotTest {
  private static final Check CHECK = new Check();
  private static final int FARTHEST = Integer.MAX_VALUE;
  private static final int LEAST = Integer.MIN_VALUE;
  /** Seed of a lot(1, .., 30, 40, 10) whose cocoon would first break at the place behind its last. */
  private static final int BREAKS_BEYOND = 1250;

  public static void main(String[] args) {
    newObject();
    lots();
    cocoonAsItComes();
    cocoonsThatAreNotThere();
    finenessAlongACocoon();
    lengthAndFinenessAtTheLimits();
    stands();
    testsOfALot();
    CHECK.end();
  }

  private static void newObject() {
    SilkMill x = new SilkMill();
    for (int what = 0; what <= 11; what++) {
      CHECK.due("new: count(" + what + ")", x.count(what), 0);
    }
    for (int place = 0; place < 16; place++) {
      CHECK.due("new: take(" + place + ", 0)", x.take(place, 0), -2);
    }
    CHECK.due("new: place()", x.place(), SilkMill.NONE);
    CHECK.due("new: drawn(0)", x.drawn(0), SilkMill.NONE);
    CHECK.due("new: mixed(0)", x.mixed(0), false);
    CHECK.due("new: about(0, 0)", x.about(0, 0), SilkMill.NONE);
    CHECK.due("new: cocoon(0, 0, 0)", x.cocoon(0, 0, 0), SilkMill.NONE);
    CHECK.due("new: skein(0, 0)", x.skein(0, 0), SilkMill.NONE);
  }

  private static void lots() {
    SilkMill x = new SilkMill();
    int[][] wrong = {{0, 20, 40, 0}, {61, 20, 40, 0}, {-1, 20, 40, 0}, {LEAST, 20, 40, 0}, {FARTHEST, 20, 40, 0},
        {1, 19, 40, 0}, {1, 61, 40, 0}, {1, 20, 39, 0}, {1, 20, 201, 0}, {1, 20, 40, -1}, {1, 20, 40, 201}};
    for (int[] w : wrong) {
      CHECK.due("wrong lot " + java.util.Arrays.toString(w), x.lot(w[0], 3, w[1], w[2], w[3]), SilkMill.NONE);
    }
    CHECK.due("count(0) after wrong ones", x.count(0), 0);
    CHECK.due("least lot", x.lot(1, LEAST, 20, 40, 0), 0);
    CHECK.due("greatest lot", x.lot(60, FARTHEST, 60, 200, 200), 1);
    CHECK.due("last of the greatest", x.cocoon(1, 59, 1), 0);
    for (int i = 2; i < 10; i++) {
      CHECK.due("lot " + i, x.lot(60, i, 30, 50, 10), i);
    }
    CHECK.due("the very last COCOON", x.cocoon(9, 59, 1), 0);
    CHECK.due("one behind it", x.cocoon(9, 60, 1), SilkMill.NONE);
    CHECK.due("a LOT behind it", x.cocoon(10, 0, 1), SilkMill.NONE);
    CHECK.due("a LOT behind it", x.test(10, 0, 0), SilkMill.NONE);
    CHECK.due("an eleventh lot", x.lot(2, 1, 30, 50, 10), SilkMill.NONE);
    CHECK.due("count(0)", x.count(0), 10);
  }

  private static void cocoonAsItComes() {
    SilkMill x = new SilkMill();
    x.lot(3, 7, 30, 50, 0);
    int[][] due = {{46, 0, 0, 31, 1237, 0, -1}, {40, 0, 0, 33, 1145, 0, -1}, {34, 0, 0, 29, 859, 0, -1}};
    for (int i = 0; i < 3; i++) {
      for (int what = 0; what <= 6; what++) {
        CHECK.due("cocoon(0, " + i + ", " + what + ")", x.cocoon(0, i, what), due[i][what]);
      }
    }
    x.pot(100, 5);
    Check.program(x, 0, "cast;");
    x.fill(0, 0, 0, 1);
    x.run(0, 3);
    CHECK.due("PLACE after three metres", x.cocoon(0, 0, 2), 3);
    CHECK.due("SILK of all of it stays", x.cocoon(0, 0, 4), 1237);
    CHECK.due("SILK drawn", x.cocoon(0, 0, 5), 93);
  }

  private static void cocoonsThatAreNotThere() {
    SilkMill x = new SilkMill();
    x.lot(3, 7, 30, 50, 0);
    int[][] wrong = {{-1, 0, 0}, {1, 0, 0}, {0, -1, 0}, {0, 3, 0}, {0, 0, -1}, {0, 0, 7}, {LEAST, 0, 0}, {FARTHEST, 0, 0},
        {0, LEAST, 0}, {0, FARTHEST, 0}, {0, 0, LEAST}, {0, 0, FARTHEST}};
    for (int[] w : wrong) {
      CHECK.due("wrong cocoon " + java.util.Arrays.toString(w), x.cocoon(w[0], w[1], w[2]), SilkMill.NONE);
    }
    int[][] nowhere = {{-1, 0, 0}, {1, 0, 0}, {0, -1, 0}, {0, 3, 0}, {0, 0, -1}, {0, 0, 46}, {0, 1, 40}, {LEAST, 0, 0},
        {0, FARTHEST, 0}, {0, 0, LEAST}, {0, 0, FARTHEST}};
    for (int[] w : nowhere) {
      CHECK.dueThrow("fineness " + java.util.Arrays.toString(w), () -> x.fineness(w[0], w[1], w[2]),
          IndexOutOfBoundsException.class);
    }
  }

  private static void finenessAlongACocoon() {
    SilkMill x = new SilkMill();
    x.lot(3, 7, 30, 50, 0);
    int[] due = {29, 29, 29, 29, 29, 30, 30, 30, 30, 29, 29, 29, 29, 28, 28, 28, 28, 26, 26, 26, 26, 26, 23, 23, 23, 23, 20,
        20, 20, 20, 16, 16, 16, 16};
    for (int p = 0; p < due.length; p++) {
      CHECK.due("fineness(0, 2, " + p + ")", x.fineness(0, 2, p), due[p]);
    }
  }

  private static void lengthAndFinenessAtTheLimits() {
    SilkMill x = new SilkMill();
    x.lot(1, 102, 20, 40, 0);
    x.lot(1, 318, 60, 200, 0);
    CHECK.due("the least length", x.cocoon(0, 0, 0), 20);
    CHECK.due("the least base", x.cocoon(0, 0, 3), 16);
    CHECK.due("the last place of it", x.fineness(0, 0, 19), 9);
    CHECK.due("the greatest length", x.cocoon(1, 0, 0), 220);
    CHECK.due("the greatest base", x.cocoon(1, 0, 3), 64);
    CHECK.due("ahead of its second eighth", x.fineness(1, 0, 27), 64);
    CHECK.due("its second eighth", x.fineness(1, 0, 28), 66);
    CHECK.due("its last place", x.fineness(1, 0, 219), 37);
  }

  /** One cocoon of each stand: a lot of six, and one that breaks at place 0, one of length 20. */
  private static void stands() {
    SilkMill x = new SilkMill();
    x.lot(6, 7, 30, 50, 0);
    x.lot(1, 85, 30, 40, 10);
    x.lot(1, 5, 20, 40, 0);
    x.pot(100, 50);
    x.pot(100, 50);
    x.fill(1, 2, 0, 1);
    x.fill(1, 1, 0, 1);
    x.fill(1, 0, 0, 4);
    Check.program(x, 1, "if day=0 and ends<3 and made=0:cast;if day=0 and ends<3 and made=0:cast;"
        + "if day=0 and ends<3 and made=0:cast;if made=5 and basket=3:throw;");
    x.run(1, 20);
    x.shelve(3, 0, 0, 4);
    stand(x, 0, 5, 0, SilkMill.NONE);
    stand(x, 0, 1, 1, 1);
    stand(x, 0, 0, 2, 1);
    stand(x, 1, 0, 3, 1);
    stand(x, 2, 0, 4, SilkMill.NONE);
    stand(x, 0, 4, 5, SilkMill.NONE);
    stand(x, 0, 3, 6, SilkMill.NONE);
    CHECK.due("FINENESS of a SPENT one", x.cocoon(2, 0, 3), 0);
    CHECK.due("PLACE of a SPENT one", x.cocoon(2, 0, 2), 20);
    CHECK.due("SILK drawn of a SPENT one", x.cocoon(2, 0, 5), 362);
    CHECK.due("FINENESS of a THROWN one", x.cocoon(0, 3, 3), x.fineness(0, 3, 0));
    CHECK.due("PLACE of a LOST one", x.cocoon(1, 0, 2), 1);
  }

  private static void stand(SilkMill x, int l, int i, int stand, int pot) {
    CHECK.due("STAND of " + l + ", " + i, x.cocoon(l, i, 1), stand);
    CHECK.due("POT of " + l + ", " + i, x.cocoon(l, i, 6), pot);
  }

  private static void testsOfALot() {
    SilkMill x = new SilkMill();
    x.lot(6, 3779, 40, 60, 8);
    int[] due1 = {0, 0, 0, 1, 2, 3, 3};
    int[] due2 = {0, 0, 0, 1, 1, 2, 3};
    for (int n = 0; n <= 6; n++) {
      CHECK.due("test(0, 1, " + n + ")", x.test(0, 1, n), due1[n]);
      CHECK.due("test(0, 2, " + n + ")", x.test(0, 2, n), due2[n]);
    }
    CHECK.due("none is moved", x.cocoon(0, 2, 1), 0);
    CHECK.due("more than there are", x.test(0, 1, 7), SilkMill.NONE);
    CHECK.due("less than none", x.test(0, 1, -1), SilkMill.NONE);
    CHECK.due("least", x.test(0, 1, LEAST), SilkMill.NONE);
    CHECK.due("no such LOT", x.test(1, 1, 0), SilkMill.NONE);
    CHECK.due("no such LOT below", x.test(-1, 1, 0), SilkMill.NONE);
    // 0, 3 and 5 break: without 0 and 2 there are 1, 3, 4, 5 left.
    x.shelve(0, 0, 0, 0);
    x.pot(10, 1);
    x.fill(0, 0, 2, 1);
    CHECK.due("of those in their LOT alone", x.test(0, 1, 4), 2);
    CHECK.due("those elsewhere don't count", x.test(0, 1, 5), SilkMill.NONE);
    x.take(0, 0);
    CHECK.due("back in its LOT", x.test(0, 1, 5), 3);
    x.lot(1, 515, 30, 40, 10);
    CHECK.due("one that BREAKS at its last place alone", x.test(1, 0, 1), 1);
    x.lot(60, 9, 30, 40, 0);
    CHECK.due("FRAIL 0 never breaks", x.test(2, 4, 60), 0);
    x.lot(1, 85, 30, 40, 10);
    CHECK.due("one that BREAKS at its first place alone", x.test(3, 0, 1), 1);
    x.lot(1, BREAKS_BEYOND, 30, 40, 10);
    CHECK.due("one that would BREAK just beyond its end", x.test(4, 0, 1), 0);
  }
}
