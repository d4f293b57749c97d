/** The edges that the document names for promises 26 to 32: a sheet for each sentence. */
public final class EdgeTradeTest {
  public static void main(String[] args) {
    promise26();
    pricesByGrade();
    promise27Weight();
    promise27Span();
    promise27Fourteen();
    promise27LikeSums();
    promise27Sold();
    promise28();
    promise29();
    promise30();
    promise31();
    promise31Days();
    promise32();
    promise32Silk();
    Sheet.end();
  }

  /** Skeins of so many metres (28 in all at most) of fineness 64 each, cut at target 64. */
  private static Sheet flat(String sentence, int... metres) {
    Sheet x = new Sheet(sentence).make("lot 1 318 60 200 0", "pot 64 5", "fill 0 0 0 1").program(0, "cast;");
    for (int n : metres) {
      x.make("run 0 " + n, "cut 0");
    }
    return x;
  }

  private static void inMix(Sheet x, int skeins, Integer... due) {
    for (int k = 0; k < skeins; k++) {
      x.due("mixed " + k, java.util.List.of(due).contains(k));
    }
  }

  private static void promise26() {
    flat("26: a GRADE 0 to 3", 1).refused(false, "price -1 5", "price 4 5", "price min 5", "price max 5")
        .due("price 0 5", true).due("price 3 5", true)
        .due("skein 0 10", 3);
    flat("26: 0 to 1000", 1).refused(false, "price 3 -1", "price 3 1001", "price 3 min", "price 3 max")
        .due("price 3 0", true).due("skein 0 10", 0)
        .due("price 3 1000", true).due("skein 0 10", 640).refused(false, "price 3 1001", "price 3 -1").due("skein 0 10", 640);
  }

  /** The weight is 1600; off the target by 3, 8, 20, 21. */
  private static void pricesByGrade() {
    int[] off = {3, 8, 20, 21};
    int[] first = {100, 80, 50, 20};
    for (int g = 0; g < 4; g++) {
      Sheet x = new Sheet("terms 5: at first 100, 80, 50, 20: GRADE " + g)
          .make("lot 1 318 60 200 0", "pot " + (64 + off[g]) + " 5", "fill 0 0 0 1").program(0, "cast;");
      x.make("run 0 25", "cut 0").due("skein 0 10", 320).due("grade 0 1 1", g).due("skein 0 10", 16 * first[g]);
      x.make("price " + (g + 1) % 4 + " 777").due("skein 0 10", 16 * first[g]).make("price " + g + " 1").due("skein 0 10", 16);
    }
    flat("terms 5: cut", 1).make("price 3 1").due("skein 0 10", 0).make("price 3 3").due("skein 0 10", 1).make("price 3 25")
        .due("skein 0 10", 16);
    flat("terms 5: by its GRADE as it was drawn latest, 3 if never", 1).due("skein 0 10", 12).make("grade 0 1 1")
        .due("skein 0 10", 64);
  }

  private static void promise27Weight() {
    flat("27: WEIGHT w, 1 or more", 2, 3).refused(-1, "mix 0 0 2000 true", "mix -1 0 2000 true", "mix min 0 2000 true")
        .due("mix 1 0 2000 false", 25);
    flat("27: WEIGHT 0 of what costs nothing", 2, 3).make("price 3 0").refused(-1, "mix 0 0 2000 true")
        .due("mix 1 0 2000 false", 0);
    Sheet x = flat("27: w at least: just as heavy", 2, 3).due("mix 128 0 2000 false", 25);
    inMix(x, 3, 0);
    inMix(x.due("mix 129 0 2000 false", 38), 3, 1);
    inMix(x.due("mix 192 0 2000 false", 38), 3, 1);
    inMix(x.due("mix 193 0 2000 false", 63), 3, 0, 1);
    inMix(x.due("mix 320 0 2000 false", 63), 3, 0, 1);
    x.refused(-1, "mix 321 0 2000 true", "mix max 0 2000 true");
    new Sheet("27: no SKEINS").make("pot 64 5").refused(-1, "mix 1 0 2000 true", "mix max min max true", "mix 0 0 2000 true");
  }

  /** Skein 0 spans 31 to 64, skein 1 is 64 alone, skein 2 spans 64 to 66; weights 159, 128, 130. */
  private static Sheet spans(String sentence) {
    return new Sheet(sentence).make("lot 3 7 30 50 0", "pot 62 5", "fill 0 0 0 3").program(0, "if fine < 40 : cast;")
        .make("run 0 3", "cut 0", "run 0 2", "cut 0", "run 0 2", "cut 0").due("skein 0 4", 31).due("skein 0 5", 64)
        .due("skein 1 4", 64).due("skein 1 5", 64)
        .due("skein 2 4", 64).due("skein 2 5", 66);
  }

  private static void promise27Span() {
    inMix(spans("27: SPAN within low .. high: just").due("mix 417 31 66 false", 82), 4, 0, 1, 2);
    spans("27: low one above").refused(-1, "mix 417 32 66 true").due("mix 258 32 66 false", 51).refused(-1, "mix 259 32 66 true");
    spans("27: high one below").refused(-1, "mix 417 31 65 true").due("mix 287 31 65 false", 56)
        .refused(-1, "mix 288 31 65 true");
    inMix(spans("27: low and high the same").due("mix 128 64 64 false", 25), 4, 1);
    spans("27: none within").refused(-1, "mix 1 65 65 true", "mix 1 65 2000 true", "mix 1 0 63 true", "mix 1 63 63 true");
    spans("27: low above high").refused(-1, "mix 1 65 64 true", "mix 1 66 31 true", "mix 1 max min true");
    spans("27: any low and high").due("mix 417 min max false", 82).due("mix 417 0 max false", 82)
        .refused(-1, "mix 1 max max true", "mix 1 min min true");
  }

  private static void promise27Fourteen() {
    Sheet x = flat("27: the first 14 by number", 1, 1, 1, 1, 1, 1, 1, 1, 1, 1, 1, 1, 1, 1, 5)
        .due("mix 896 0 2000 false", 14 * 12);
    inMix(x, 16, 0, 1, 2, 3, 4, 5, 6, 7, 8, 9, 10, 11, 12, 13);
    x.refused(-1, "mix 897 0 2000 true").due("mix 1 0 2000 true", 12).due("mix 1152 0 2000 false", 13 * 12 + 64)
        .refused(-1, "mix 1153 0 2000 true");
    Sheet y = flat("27: those not within do not count for the 14", 1, 1, 1, 1, 1, 1, 1, 1, 1, 1, 1, 1, 1, 1);
    y.make("run 0 20", "cut 0").due("skein 14 5", 66).due("mix 1 65 66 false", -1).due("mix 1 64 66 false", 12)
        .due("mix 897 64 66 false", -1);
    Sheet z = new Sheet("27: the 15th, where one ahead is not within").make("lot 1 318 60 200 0", "lot 1 7 30 50 0", "pot 64 5",
        "fill 0 1 0 1").program(0, "cast;")
        .make("run 0 1", "cut 0").program(0, "drop;throw;").make("run 0 1", "fill 0 0 0 1").program(0, "cast;");
    for (int k = 1; k <= 14; k++) {
      z.make("run 0 1", "cut 0");
    }
    z.due("skein 0 5", 31).due("mix 896 64 64 false", 14 * 12).due("mixed 14", true).due("mixed 0", false)
        .refused(-1, "mix 897 64 64 true");
    z.due("mix 863 0 64 false", 6 + 13 * 12).due("mixed 14", false).due("mixed 0", true).refused(-1, "mix 864 0 64 true");
  }

  private static void promise27LikeSums() {
    Sheet x = flat("terms 5: of several those of which the least number that is in one alone is in", 1, 1, 1);
    inMix(x.due("mix 64 0 2000 false", 12), 4, 0);
    inMix(x.due("mix 65 0 2000 false", 24), 4, 0, 1);
    inMix(x.due("mix 129 0 2000 false", 36), 4, 0, 1, 2);
    Sheet y = flat("terms 5: 0 and 3 or 1 and 2", 1, 2, 2, 3).make("price 3 100");
    inMix(y.due("mix 256 0 2000 false", 256), 5, 0, 3);
    Sheet z = flat("terms 5: 0, 1 and 2, or 0 and 3", 1, 1, 1, 2).make("price 3 50");
    inMix(z.due("mix 192 0 2000 false", 96), 5, 0, 1, 2);
    Sheet w = flat("terms 5: two or one of like sum", 2, 1, 1).make("price 3 50");
    inMix(w.due("mix 128 0 2000 false", 64), 4, 0);
    Sheet free = flat("terms 5: what costs nothing is in, as its number is in one alone", 1, 1, 2, 1)
        .make("price 3 0", "grade 2 1 1");
    inMix(free.due("mix 64 0 2000 false", 0), 5, 0, 1, 3);
    Sheet last = flat("terms 5: the least sum is ahead of the least number", 2, 1).make("price 3 100");
    inMix(last.due("mix 64 0 2000 false", 64), 3, 1);
  }

  private static void promise27Sold() {
    Sheet x = flat("27: if sell, they are SOLD", 2, 1, 3).still(-1, "mix 385 0 2000 true").due("mix 65 0 2000 true", 25)
        .due("skein 0 9", 1).due("skein 1 9", 0).due("skein 2 9", 0);
    x.due("mix 65 0 2000 false", 38).due("skein 2 9", 0).due("mix 256 0 2000 true", 50).due("skein 1 9", 1).due("skein 2 9", 1);
    x.refused(-1, "mix 1 0 2000 true", "mix 1 0 2000 false");
    flat("27: not SOLD if not sell", 2, 1).due("mix 192 0 2000 false", 37).due("skein 0 9", 0).due("skein 1 9", 0)
        .due("mix 192 0 2000 true", 37)
        .due("mix 192 0 2000 true", -1).due("skein 0 9", 1);
  }

  private static void promise28() {
    flat("28: ahead of any", 1).refused(false, "mixed 0", "mixed 1", "mixed -1").due("mix 65 0 2000 true", -1)
        .due("mixed 0", false);
    flat("28: no such SKEIN", 1).make("mix 1 0 2000 false").due("mixed 0", true)
        .refused(false, "mixed -1", "mixed 1", "mixed 39", "mixed 40", "mixed min", "mixed max");
    flat("28: the latest mix() that was not NONE", 1, 2).make("mix 64 0 2000 false").due("mixed 0", true).due("mixed 1", false)
        .refused(-1, "mix 193 0 2000 true", "mix 0 0 2000 true", "mix 1 65 70 true").due("mixed 0", true).due("mixed 1", false)
        .make("mix 65 0 2000 false").due("mixed 0", false).due("mixed 1", true);
    flat("28: sold ones, too", 1).make("mix 1 0 2000 true").due("mixed 0", true).due("mix 1 0 2000 true", -1)
        .due("mixed 0", true);
    flat("28: one that came later is not in", 1).make("mix 1 0 2000 false", "run 0 1", "cut 0").due("mixed 0", true)
        .due("mixed 1", false);
    Sheet forty = new Sheet("28: the last of 40").make("lot 1 318 60 200 0", "pot 64 5", "fill 0 0 0 1")
        .program(0, "cut;cast;").make("run 0 41", "mix 1 64 64 true", "mix 800 64 64 true")
        .make("mix 896 64 64 true");
    forty.due("mix 792 66 66 false", 12 * 13).due("mixed 39", true).due("mixed 28", true).due("mixed 27", false)
        .due("mixed 40", false);
  }

  private static void promise29() {
    Sheet x = new Sheet("29: the next DAY, from 0 on").due("count 3", 0);
    for (int d = 1; d <= 12; d++) {
      x.due("day", d).due("count 3", d);
    }
  }

  private static void promise30() {
    flat("30: an amount 1 to 10000", 1).refused(false, "fault 0 0", "fault 0 -1", "fault 0 min", "fault 0 10001",
        "fault 0 max").due("count 5", 0)
        .due("fault 0 1", true).due("pay 0 0 0", 11).due("fault 0 10000", true).due("pay 0 0 0", 12 - 10001).due("count 5", 2);
    flat("30: no such SKEIN", 1).refused(false, "fault -1 5", "fault 1 5", "fault 40 5", "fault min 5", "fault max 5")
        .due("fault 0 5", true);
    new Sheet("30: no SKEIN at all").make("pot 64 5").refused(false, "fault 0 1", "fault -1 1");
    Sheet x = flat("30: at most 40 in all", 1, 1);
    for (int f = 0; f < 40; f++) {
      x.due("count 5", f).due("fault " + f % 2 + " 10000", true);
    }
    x.refused(false, "fault 0 1", "fault 1 10000").due("count 5", 40).due("pay 0 0 0", 24 - 400000).make("day")
        .due("fault 0 1", false).due("pay 0 0 1", 24 - 400000);
    flat("30: of a SOLD one, too", 1).make("mix 1 0 2000 true").due("fault 0 5", true).due("pay 0 0 0", 7);
  }

  private static void promise31() {
    flat("31: 0 without such a POT", 1).due("pay 0 0 0", 12).refused(0, "pay -1 0 0", "pay 1 0 0", "pay 4 0 0", "pay min 0 0",
        "pay max 0 0");
    flat("31: 0 for DAYS that there were not yet", 1).refused(0, "pay 0 0 1", "pay 0 1 0", "pay 0 1 1", "pay 0 0 max",
        "pay 0 max 0", "pay 0 max max").make("day").due("pay 0 0 1", 12)
        .refused(0, "pay 0 0 2", "pay 0 2 1", "pay 0 1 2", "pay 0 2 2");
    flat("31: there is no DAY below 0", 1).refused(0, "pay 0 -1 0", "pay 0 0 -1", "pay 0 -1 -1", "pay 0 min 0", "pay 0 0 min");
    new Sheet("31: a DAY on which nothing was CUT").make("pot 64 5").due("pay 0 0 0", 0);
    flat("31: the latest DAY itself", 1).make("day", "run 0 2", "cut 0").due("pay 0 1 1", 25).due("pay 0 0 1", 12)
        .due("pay 0 0 0", 12);
    flat("31: one that grows does not count", 1).make("run 0 5").due("pay 0 0 0", 12);
    flat("31: SOLD or not", 1).make("mix 1 0 2000 true").due("pay 0 0 0", 12);
  }

  private static void promise31Days() {
    Sheet x = flat("terms 5: FAULTS told on DAYS up to k", 2).make("fault 0 1", "day", "fault 0 2", "day", "day", "fault 0 4");
    x.due("pay 0 0 0", 24).due("pay 0 0 1", 22).due("pay 0 0 2", 22).due("pay 0 0 3", 18).due("pay 0 0 4", 0);
    flat("terms 5: FAULTS of these, not of others", 2).make("day", "run 0 2", "cut 0", "fault 0 3", "fault 1 5")
        .due("pay 0 0 1", 22).due("pay 0 1 1", 20);
    flat("terms 5: PRICES as they are now", 2).make("day", "price 3 1000").due("pay 0 0 0", 1280).make("grade 0 1 1")
        .due("pay 0 0 0", 128).make("price 0 0").due("pay 0 0 0", 0)
        .make("fault 0 7").due("pay 0 0 1", -7).due("pay 0 0 0", 0);
    flat("terms 5: of a POT").make("pot 64 5", "lot 1 318 60 200 0", "fill 1 1 0 1").program(1, "cast;")
        .make("run 0 1", "cut 0", "run 1 2", "cut 1", "fault 1 5")
        .due("pay 0 0 0", 12).due("pay 1 0 0", 20);
    flat("terms 5: SKEINS CUT on a, though drawn ahead of it").make("run 0 1", "day", "cut 0").due("pay 0 0 1", 0)
        .due("pay 0 1 1", 12);
  }

  private static void promise32() {
    flat("32: what 0 to 11", 1).due("count 0", 1).due("count 11", 0).refused(-1, "count -1", "count 12", "count min",
        "count max");
    Sheet x = flat("32: each counts its own", 2, 1).make("lot 5 7 30 50 0", "pot 64 5", "pot 64 5", "fill 1 1 0 3")
        .program(1, "if basket=3:throw;if basket=2:cast;")
        .make("run 1 3", "run 0 1", "day", "fault 0 5", "shelve 0 1 1 1", "shelve 9 0 1 4", "feed 1 2 3 4 5");
    int[] due = {2, 3, 2, 1, 20, 1, 256 + 93, 192, 64 + 93, 0, 859, 2};
    for (int what = 0; what < due.length; what++) {
      x.due("count " + what, due[what]);
    }
  }

  private static void promise32Silk() {
    new Sheet("32: SILK drawn ever is that in SKEINS kept, in those that grow and WASTE")
        .make("lot 1 318 60 200 0", "pot 64 5", "fill 0 0 0 1").program(0, "cut;cast;")
        .make("run 0 40").due("count 6", 2584).due("count 7", 2518).due("count 8", 66).due("count 9", 0)
        .make("run 0 1").due("count 6", 2650).due("count 7", 2584).due("count 8", 66).due("count 9", 0)
        .make("run 0 1").due("count 6", 2716).due("count 7", 2584).due("count 8", 66).due("count 9", 66)
        .make("cut 0").due("count 6", 2716).due("count 7", 2584).due("count 8", 0).due("count 9", 132);
    new Sheet("32: SILK not drawn yet of THROWN ones").make("lot 1 102 20 40 0", "lot 3 7 30 50 0", "pot 64 5",
        "fill 0 0 0 1").program(0, "cast;").make("run 0 19").program(0, "drop;throw;")
        .make("run 0 1").due("count 10", 9).due("count 6", 266).due("count 8", 266).make("fill 0 1 2 1")
        .program(0, "throw;").make("run 0 1").due("count 10", 9 + 859);
    new Sheet("32: two SKEINS that grow").make("lot 2 318 60 200 0", "pot 64 5", "pot 64 5", "fill 0 0 0 1",
        "fill 1 0 1 1").program(0, "cast;").program(1, "cast;")
        .make("run 0 2", "run 1 3").due("count 8", 128 + 180).due("count 6", 308).make("cut 0").due("count 8", 180)
        .due("count 7", 128);
    Sheet things = new Sheet("32: things on the SHELF, 0 to 16");
    for (int place = 0; place < 16; place++) {
      things.due("count 11", place).make("shelve " + place + " 2 0 0");
    }
    things.due("count 11", 16).make("take 0 2", "take 1 1", "shelve 2 1 1 1").due("count 11", 16);
  }
}
