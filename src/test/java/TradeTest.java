import java.util.Arrays;

/** Promises 26 to 32: prices, mixes, days, faults, pay and counts. */
public final class TradeTest {
  private static final Check CHECK = new Check();
  private static final int FARTHEST = Integer.MAX_VALUE;
  private static final int LEAST = Integer.MIN_VALUE;

  public static void main(String[] args) {
    prices();
    mixes();
    mixOfLikePrices();
    mixWithoutPrice();
    mixOfFourteen();
    mixWithinASpan();
    mixesThatAreNone();
    days();
    faults();
    pays();
    payByPots();
    counts();
    CHECK.end();
  }

  /** Skeins of as many metres (28 in all at most) of fineness 64 each, target 64. */
  private static SilkMill flat(int... metres) {
    SilkMill x = new SilkMill();
    x.lot(1, 318, 60, 200, 0);
    x.pot(64, 5);
    x.fill(0, 0, 0, 1);
    Check.program(x, 0, "cast;");
    for (int n : metres) {
      x.run(0, n);
      x.cut(0);
    }
    return x;
  }

  private static void prices() {
    SilkMill x = flat(3);
    int[][] wrong = {{-1, 5}, {4, 5}, {0, -1}, {0, 1001}, {LEAST, 5}, {FARTHEST, 5}, {0, LEAST}, {0, FARTHEST}};
    for (int[] w : wrong) {
      CHECK.due("wrong price " + Arrays.toString(w), x.price(w[0], w[1]), false);
    }
    int[] first = {100, 80, 50, 20};
    int[] off = {0, 8, 20, 100};
    for (int g = 0; g < 4; g++) {
      SilkMill y = new SilkMill();
      y.lot(1, 318, 60, 200, 0);
      y.pot(64 + off[g], 5);
      y.fill(0, 0, 0, 1);
      Check.program(y, 0, "cast;");
      y.run(0, 1);
      y.cut(0);
      y.run(0, 25);
      y.cut(0);
      CHECK.due("GRADE " + g, y.grade(0, 1, 1), g);
      CHECK.due("GRADE " + g, y.grade(1, 1, 1), g);
      CHECK.due("PRICE at first", y.skein(0, 10), 64 * first[g] / 100);
      CHECK.due("PRICE at first", y.skein(1, 10), 16 * first[g]);
      CHECK.due("another", y.price(g, 37), true);
      CHECK.due("PRICE, cut", y.skein(0, 10), 23);
      CHECK.due("of another GRADE", y.price((g + 1) % 4, 500), true);
      CHECK.due("PRICE stays", y.skein(0, 10), 23);
      CHECK.due("greatest", y.price(g, 1000), true);
      CHECK.due("PRICE", y.skein(0, 10), 640);
      CHECK.due("least", y.price(g, 0), true);
      CHECK.due("PRICE", y.skein(0, 10), 0);
    }
    CHECK.due("never drawn: as GRADE 3", x.skein(0, 10), 192 * 20 / 100);
  }

  private static void inMix(SilkMill x, int... due) {
    for (int k = 0; k < 40; k++) {
      int wanted = k;
      CHECK.due("mixed(" + k + ")", x.mixed(k), Arrays.stream(due).anyMatch(d -> d == wanted));
    }
    CHECK.due("mixed(-1)", x.mixed(-1), false);
    CHECK.due("mixed(40)", x.mixed(40), false);
    CHECK.due("mixed(LEAST)", x.mixed(LEAST), false);
    CHECK.due("mixed(FARTHEST)", x.mixed(FARTHEST), false);
  }

  /** Weights 192, 64, 128, 320; prices 192 (grade 0), 12, 25, 64. */
  private static void mixes() {
    SilkMill x = flat(3, 1, 2, 5);
    x.grade(0, 1, 2);
    CHECK.due("ahead of any", x.mixed(0), false);
    CHECK.due("the dear one alone would do", x.mix(192, 0, 1000, false), 37);
    inMix(x, 1, 2);
    CHECK.due("one more", x.mix(193, 0, 1000, false), 64);
    inMix(x, 3);
    CHECK.due("the heavy one and the light one", x.mix(384, 0, 1000, false), 76);
    inMix(x, 1, 3);
    CHECK.due("all", x.mix(704, 0, 1000, false), 293);
    inMix(x, 0, 1, 2, 3);
    CHECK.due("more than all", x.mix(705, 0, 1000, false), SilkMill.NONE);
    inMix(x, 0, 1, 2, 3);
    CHECK.due("not SOLD", x.skein(1, 9), 0);
    CHECK.due("sold", x.mix(100, 0, 1000, true), 25);
    inMix(x, 2);
    CHECK.due("SOLD", x.skein(2, 9), 1);
    CHECK.due("not SOLD", x.skein(1, 9), 0);
    CHECK.due("without it", x.mix(100, 0, 1000, false), 64);
    CHECK.due("not in the latest", x.mixed(2), false);
    CHECK.due("not for sale", x.mix(577, 0, 1000, false), SilkMill.NONE);
    x.grade(0, 1, 1);
    x.price(0, 10);
    CHECK.due("PRICES as they are now", x.mix(100, 0, 1000, false), 19);
    inMix(x, 0);
  }

  private static void mixOfLikePrices() {
    SilkMill x = flat(1, 1, 1, 2, 1);
    CHECK.due("the first of like ones", x.mix(64, 0, 1000, false), 12);
    inMix(x, 0);
    CHECK.due("the first two", x.mix(65, 0, 1000, false), 24);
    inMix(x, 0, 1);
    x.price(3, 50);
    CHECK.due("two of 32 or one of 64", x.mix(128, 0, 1000, false), 64);
    inMix(x, 0, 1);
    CHECK.due("three of 32, or 0 and 3", x.mix(192, 0, 1000, true), 96);
    inMix(x, 0, 1, 2);
    CHECK.due("3 alone", x.mix(65, 0, 1000, true), 64);
    inMix(x, 3);
    CHECK.due("the last", x.mix(1, 0, 1000, true), 32);
    inMix(x, 4);
    // {0, 3} and {1, 2}: 0 is in one alone, the least such
    SilkMill y = flat(1, 2, 2, 3);
    y.price(3, 100);
    CHECK.due("four of like price", y.mix(256, 0, 1000, false), 256);
    inMix(y, 0, 3);
  }

  private static void mixWithoutPrice() {
    SilkMill x = flat(1, 1, 2, 1);
    x.price(3, 0);
    x.grade(2, 1, 1);
    CHECK.due("those for nothing are all in", x.mix(64, 0, 1000, false), 0);
    inMix(x, 0, 1, 3);
    CHECK.due("with one that costs", x.mix(193, 0, 1000, false), 128);
    inMix(x, 0, 1, 2, 3);
  }

  private static void mixOfFourteen() {
    SilkMill x = flat(1, 1, 1, 1, 1, 1, 1, 1, 1, 1, 1, 1, 1, 1, 2, 2);
    CHECK.due("the first 14 alone", x.mix(14 * 64, 0, 1000, false), 14 * 12);
    inMix(x, 0, 1, 2, 3, 4, 5, 6, 7, 8, 9, 10, 11, 12, 13);
    CHECK.due("no more than these", x.mix(14 * 64 + 1, 0, 1000, false), SilkMill.NONE);
    x.price(3, 0);
    CHECK.due("for nothing", x.mix(1, 0, 1000, true), 0);
    CHECK.due("the fifteenth is not SOLD", x.skein(14, 9), 0);
    CHECK.due("those behind come in", x.mix(256, 0, 1000, false), 0);
    inMix(x, 14, 15);
  }

  /** Skein 0 spans 31 to 64, skein 1 is 64 alone, skein 2 spans 64 to 66. */
  private static void mixWithinASpan() {
    SilkMill x = new SilkMill();
    x.lot(3, 7, 30, 50, 0);
    x.pot(62, 5);
    x.fill(0, 0, 0, 3);
    Check.program(x, 0, "if fine < 40 : cast;");
    x.run(0, 3);
    x.cut(0);
    x.run(0, 2);
    x.cut(0);
    x.run(0, 2);
    x.cut(0);
    int[][] spans = {{31, 64}, {64, 64}, {64, 66}};
    for (int k = 0; k < 3; k++) {
      CHECK.due("least of " + k, x.skein(k, 4), spans[k][0]);
      CHECK.due("greatest of " + k, x.skein(k, 5), spans[k][1]);
    }
    CHECK.due("all fit", x.mix(417, 31, 66, false), 31 + 25 + 26);
    CHECK.due("one too low", x.mix(417, 32, 66, false), SilkMill.NONE);
    CHECK.due("one too high", x.mix(417, 31, 65, false), SilkMill.NONE);
    CHECK.due("the first two", x.mix(200, 31, 65, false), 31 + 25);
    CHECK.due("the first alone", x.mix(129, 31, 64, false), 31);
    CHECK.due("the second alone", x.mix(1, 64, 65, false), 25);
    CHECK.due("none", x.mix(1, 65, 65, false), SilkMill.NONE);
    CHECK.due("low above high", x.mix(1, 66, 31, false), SilkMill.NONE);
    CHECK.due("any", x.mix(1, LEAST, FARTHEST, false), 25);
    CHECK.due("nothing", x.mix(1, FARTHEST, LEAST, false), SilkMill.NONE);
  }

  private static void mixesThatAreNone() {
    SilkMill x = flat(1);
    CHECK.due("WEIGHT 0", x.mix(0, 0, 1000, true), SilkMill.NONE);
    CHECK.due("below", x.mix(-1, 0, 1000, true), SilkMill.NONE);
    CHECK.due("far below", x.mix(LEAST, 0, 1000, true), SilkMill.NONE);
    CHECK.due("far above", x.mix(FARTHEST, 0, 1000, true), SilkMill.NONE);
    CHECK.due("not SOLD", x.skein(0, 9), 0);
    CHECK.due("none yet", x.mixed(0), false);
    x.price(3, 0);
    CHECK.due("WEIGHT 0 of what costs nothing", x.mix(0, 0, 1000, true), SilkMill.NONE);
    x.price(3, 20);
    CHECK.due("no SKEINS", new SilkMill().mix(1, 0, 1000, true), SilkMill.NONE);
    CHECK.due("WEIGHT 1", x.mix(1, 0, 1000, true), 12);
    CHECK.due("SOLD", x.skein(0, 9), 1);
    CHECK.due("still the latest", x.mix(1, 0, 1000, true), SilkMill.NONE);
    CHECK.due("still the latest", x.mixed(0), true);
  }

  private static void days() {
    SilkMill x = new SilkMill();
    CHECK.due("DAY 0", x.count(3), 0);
    for (int d = 1; d <= 5; d++) {
      CHECK.due("day()", x.day(), d);
      CHECK.due("count(3)", x.count(3), d);
    }
  }

  private static void faults() {
    SilkMill x = flat(1);
    int[][] wrong = {{-1, 5}, {1, 5}, {0, 0}, {0, -1}, {0, 10001}, {LEAST, 5}, {FARTHEST, 5}, {0, LEAST}, {0, FARTHEST}};
    for (int[] w : wrong) {
      CHECK.due("wrong fault " + Arrays.toString(w), x.fault(w[0], w[1]), false);
    }
    CHECK.due("none told", x.count(5), 0);
    for (int i = 1; i <= 40; i++) {
      CHECK.due("fault " + i, x.fault(0, i == 1 ? 10000 : 1), true);
      CHECK.due("told", x.count(5), i);
    }
    CHECK.due("a 41st", x.fault(0, 1), false);
    CHECK.due("told", x.count(5), 40);
    CHECK.due("pay", x.pay(0, 0, 0), 12 - 10039);
  }

  private static void pays() {
    SilkMill x = flat(2, 1);
    x.day();
    x.run(0, 5);
    x.cut(0);
    x.fault(0, 10);
    x.fault(2, 7);
    x.day();
    x.fault(1, 3);
    x.fault(0, 1);
    CHECK.due("DAY 0 as known on 0", x.pay(0, 0, 0), 25 + 12);
    CHECK.due("as known on 1", x.pay(0, 0, 1), 37 - 10);
    CHECK.due("as known on 2", x.pay(0, 0, 2), 37 - 14);
    CHECK.due("as known on 3", x.pay(0, 0, 3), 0);
    CHECK.due("DAY 1 as known on 0", x.pay(0, 1, 0), 64);
    CHECK.due("DAY 1 as known on 1", x.pay(0, 1, 1), 57);
    CHECK.due("DAY 2: none CUT", x.pay(0, 2, 2), 0);
    int[][] wrong = {{1, 0, 0}, {-1, 0, 0}, {0, -1, 0}, {0, 0, -1}, {0, 3, 2}, {0, 3, 3}, {LEAST, 0, 0}, {FARTHEST, 0, 0},
        {0, FARTHEST, 0}, {0, 0, FARTHEST}, {0, LEAST, 0}, {0, 0, LEAST}};
    for (int[] w : wrong) {
      CHECK.due("wrong pay " + Arrays.toString(w), x.pay(w[0], w[1], w[2]), 0);
    }
    x.grade(0, 1, 1);
    CHECK.due("by the latest GRADE", x.pay(0, 0, 0), 128 + 12);
    x.price(3, 1000);
    CHECK.due("by PRICES as they are now", x.pay(0, 0, 0), 128 + 640);
    x.mix(1, 0, 1000, true);
    CHECK.due("SOLD or not", x.pay(0, 0, 0), 128 + 640);
  }

  private static void payByPots() {
    SilkMill x = flat(2);
    x.lot(1, 318, 60, 200, 0);
    x.pot(64, 5);
    x.fill(1, 1, 0, 1);
    Check.program(x, 1, "cast;");
    x.run(1, 5);
    x.cut(1);
    x.fault(0, 20);
    CHECK.due("the first POT", x.pay(0, 0, 0), 5);
    CHECK.due("the second POT", x.pay(1, 0, 0), 64);
  }

  /** A mill with something of each kind that count() tells. */
  private static void counts() {
    SilkMill x = flat(2, 1);
    x.lot(5, 7, 30, 50, 0);
    x.pot(64, 5);
    x.pot(64, 5);
    x.fill(1, 1, 0, 3);
    Check.program(x, 1, "if basket=3:throw;if basket=2:cast;");
    x.run(1, 3);
    x.run(0, 1);
    x.day();
    x.fault(0, 5);
    x.shelve(0, 1, 1, 1);
    x.shelve(9, 0, 1, 4);
    x.feed(1, 2, 3, 4, 5);
    int[] due = {2, 3, 2, 1, 20, 1, 256 + 93, 192, 64 + 93, 0, 859, 2};
    for (int what = 0; what < due.length; what++) {
      CHECK.due("count(" + what + ")", x.count(what), due[what]);
    }
    for (int what : new int[] {-1, 12, LEAST, FARTHEST}) {
      CHECK.due("count(" + what + ")", x.count(what), SilkMill.NONE);
    }
  }
}
