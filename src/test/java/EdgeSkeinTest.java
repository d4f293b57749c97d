/** The edges that the document names for promises 17 to 21, for pieces and for grades: a sheet for each sentence. */
public final class EdgeSkeinTest {
  public static void main(String[] args) {
    promise17();
    promise17Whats();
    slips();
    promise18();
    promise19();
    piecesByTheHundred();
    piecesAtTheirEdges();
    promise20();
    gradesByOff();
    drawnOnes();
    bounds();
    promise21();
    Sheet.end();
  }

  /** A skein of n metres (28 at most) of fineness 64 each, cut at a target. */
  private static Sheet flat(String sentence, int n, int target) {
    return new Sheet(sentence).make("lot 1 318 60 200 0", "pot " + target + " 5", "fill 0 0 0 1").program(0, "cast;")
        .make("run 0 " + n, "cut 0");
  }

  /** A skein of 300 metres. */
  private static Sheet longest(String sentence) {
    return new Sheet(sentence).make("lot 2 318 60 200 0", "pot 100 5", "fill 0 0 0 2").program(0, "if ends<1:cast;")
        .make("run 0 300");
  }

  private static void promise17() {
    flat("17: no such SKEIN", 3, 64).due("skein 0 2", 3).refused(-1, "skein -1 0", "skein 1 0", "skein 39 0", "skein 40 0",
        "skein min 0", "skein max 0");
    new Sheet("17: no SKEIN at all").make("pot 100 5").refused(-1, "skein 0 0", "skein 0 8", "skein -1 0");
    new Sheet("17: one that grows is none").make("lot 1 318 60 200 0", "pot 100 5", "fill 0 0 0 1").program(0, "cast;")
        .make("run 0 9")
        .refused(-1, "skein 0 0", "skein 0 2", "metre 0 0 0", "piece 0 0 0", "grade 0 1 1").due("cut 0", 0).due("skein 0 2", 9);
    new Sheet("17: the last of 40").make("lot 1 318 60 200 0", "pot 100 5", "fill 0 0 0 1").program(0, "cut;cast;")
        .make("run 0 41").due("skein 39 2", 1)
        .due("skein 39 3", 66).due("skein 40 2", -1).make("run 0 5").due("skein 40 2", -1).due("skein 39 3", 66);
    flat("17: what 0 to 11", 3, 64).due("skein 0 0", 0).due("skein 0 11", 64)
        .refused(-1, "skein 0 -1", "skein 0 12", "skein 0 min", "skein 0 max");
  }

  private static void promise17Whats() {
    Sheet one = flat("17: a SKEIN of one METRE", 1, 70);
    int[] due = {0, 0, 1, 64, 64, 64, 0, 1, 3, 0, 12, 70};
    for (int what = 0; what < due.length; what++) {
      one.due("skein 0 " + what, due[what]);
    }
    longest("17: a SKEIN of 300 METRES").due("skein 0 2", 300).due("skein 0 3", 12272 + 4880).due("skein 0 4", 37)
        .due("skein 0 5", 66).due("skein 0 7", 2);
    flat("17: GRADE drawn latest, 3 if never", 3, 64).due("skein 0 8", 3).make("grade 0 1 1").due("skein 0 8", 0)
        .make("run 0 1", "cut 0").due("skein 1 8", 3);
    flat("17: whether it is SOLD", 3, 64).make("mix 1 0 2000 false").due("skein 0 9", 0).make("mix 1 0 2000 true")
        .due("skein 0 9", 1);
    flat("17: PRICE, cut", 1, 64).due("skein 0 10", 12).make("price 3 1").due("skein 0 10", 0).make("price 3 2")
        .due("skein 0 10", 1)
        .make("price 3 0").due("skein 0 10", 0).make("price 3 1000").due("skein 0 10", 640).make("price 3 99")
        .due("skein 0 10", 63);
    flat("17: DAY and TARGET as they were when it was CUT", 3, 64).make("day", "target 0 65").due("skein 0 1", 0)
        .due("skein 0 11", 64)
        .make("run 0 1", "cut 0").due("skein 1 1", 1).due("skein 1 11", 65);
    longest("17: PRICE of the heaviest for most").make("price 3 1000").due("skein 0 10", (12272 + 4880) * 10);
    Sheet heavy = new Sheet("17: ten ENDS from first to last").make("pot 100 5");
    for (int l = 0; l < 10; l++) {
      heavy.make("lot 1 318 60 200 0", "fill 0 " + l + " 0 1");
    }
    heavy.program(0, "cast;cast;cast;cast;cast;cast;cast;cast;cast;cast;").due("run 0 300", 220).due("cut 0", 0)
        .due("skein 0 3", 122720)
        .make("price 3 1000").due("skein 0 10", 1227200).due("skein 0 7", 10).due("metre 0 0 0", 640).due("metre 0 219 1", 10);
  }

  /** The pot draws one metre of a cocoon alone, then throws it away. */
  private static void metreOf(Sheet x, int cocoon) {
    x.make("fill 0 0 " + cocoon + " 1").program(0, "cast;").make("run 0 1").program(0, "drop;throw;").make("run 0 1");
  }

  /** The fineness of cocoons 0, 6, 5, 8, 7, 1, 2 of lot 15, 7, 30, 50 is 31, 27, 31, 26, 31, 33, 29. */
  private static void slips() {
    Sheet x = new Sheet("terms 4: SLIPS: more than 4, up or down").make("lot 15 7 30 50 0", "pot 100 5");
    for (int i : new int[] {0, 6, 5, 2, 1}) {
      metreOf(x, i);
    }
    x.due("cut 0", 0).due("skein 0 2", 5).due("skein 0 6", 0).due("skein 0 4", 27).due("skein 0 5", 33);
    for (int i : new int[] {7, 8}) {
      metreOf(x, i);
    }
    x.due("cut 0", 1).due("skein 1 2", 2).due("skein 1 6", 1).due("skein 1 4", 26).due("skein 1 5", 31);
    Sheet y = new Sheet("terms 4: SLIPS: 5 up").make("lot 15 7 30 50 0", "pot 100 5");
    for (int i : new int[] {8, 7, 1, 2}) {
      metreOf(y, i);
    }
    y.due("cut 0", 0).due("skein 0 6", 1).due("skein 0 4", 26).due("skein 0 5", 33);
    Sheet z = new Sheet("terms 4: SLIPS: METRES but the first one").make("lot 15 7 30 50 0", "pot 100 5", "fill 0 0 0 2")
        .program(0, "cast;")
        .make("run 0 1", "cut 0", "run 0 1", "cut 0").due("metre 0 0 0", 31).due("metre 1 0 0", 64);
    z.due("skein 0 6", 0).due("skein 1 6", 0);
  }

  private static void promise18() {
    flat("18: METRE 0 to METRES - 1", 3, 64).due("metre 0 0 0", 64).due("metre 0 2 0", 64).due("metre 0 2 1", 1)
        .refused(-1, "metre 0 -1 0", "metre 0 3 0", "metre 0 3 1", "metre 0 300 0", "metre 0 min 0", "metre 0 max 0");
    flat("18: what 0 and 1", 3, 64).refused(-1, "metre 0 0 -1", "metre 0 0 2", "metre 0 0 min", "metre 0 0 max");
    flat("18: no such SKEIN", 3, 64).refused(-1, "metre -1 0 0", "metre 1 0 0", "metre 40 0 0", "metre min 0 0", "metre max 0 0");
    longest("18: METRE 299").due("metre 0 299 0", 61).due("metre 0 299 1", 1).refused(-1, "metre 0 300 0", "metre 0 300 1");
    new Sheet("18: twelve ENDS").make("lot 12 7 30 50 0", "pot 100 5", "fill 0 0 0 12")
        .program(0, "cast;cast;cast;cast;cast;cast;cast;cast;cast;cast;cast;cast;")
        .make("run 0 1", "cut 0").due("metre 0 0 1", 12).due("metre 0 0 0", 363);
  }

  private static void promise19() {
    Sheet x = new Sheet("19: PIECE 0 to PIECES - 1, what 0 to 4").make("lot 1 1 30 50 0", "lot 3 7 30 50 0", "pot 62 5",
        "fill 0 1 0 3").program(0, "if fine < 40 : cast;")
        .make("run 0 3", "cut 0").due("skein 0 7", 2);
    int[][] due = {{1, 0, 0, 3, 0}, {1, 1, 1, 2, 0}};
    for (int i = 0; i < 2; i++) {
      for (int what = 0; what < 5; what++) {
        x.due("piece 0 " + i + " " + what, due[i][what]);
      }
    }
    x.refused(-1, "piece 0 -1 0", "piece 0 2 0", "piece 0 3 0", "piece 0 min 0", "piece 0 max 0");
    x.refused(-1, "piece 0 0 -1", "piece 0 0 5", "piece 0 1 5", "piece 0 0 min", "piece 0 0 max");
    x.refused(-1, "piece -1 0 0", "piece 1 0 0", "piece 40 0 0", "piece min 0 0", "piece max 0 0");
    longest("19: over 300 METRES").due("piece 0 0 3", 220).due("piece 0 1 2", 220).due("piece 0 1 3", 80).due("piece 0 2 3", -1);
    Sheet last = new Sheet("19: the last COCOON of a LOT of 60, the last LOT").make("pot 62 5");
    for (int l = 0; l < 10; l++) {
      last.make("lot 60 " + l + " 30 50 0");
    }
    last.make("fill 0 9 59 1").program(0, "cast;").make("run 0 1", "cut 0").due("piece 0 0 0", 9).due("piece 0 0 1", 59);
  }

  /** Twelve ends at a time of 600 most frail cocoons: what is due was worked out by another program. */
  private static void piecesByTheHundred() {
    Sheet x = new Sheet("19: 899 PIECES of a SKEIN").make("pot 100 1");
    for (int l = 0; l < 10; l++) {
      x.make("lot 60 " + l + " 60 200 200", "fill 0 " + l + " 0 60");
    }
    x.program(0, "cast;cast;cast;cast;cast;cast;cast;cast;cast;cast;cast;cast;").due("run 0 300", 300).due("about 0 2", 598)
        .due("about 0 0", 0);
    x.due("skein 0 7", 899).due("skein 0 3", 212789).due("skein 0 4", 179).due("skein 0 5", 741).due("metre 0 0 1", 12)
        .due("metre 0 299 1", 3).due("metre 0 299 0", 181);
    int[][] due = {{0, 0, 0, 0, 1, 0}, {2, 0, 2, 0, 6, 0}, {311, 5, 11, 99, 3, 0}, {312, 5, 12, 99, 2, 0},
        {313, 5, 13, 99, 1, 0}, {898, 4, 41, 299, 1, 10}};
    for (int[] d : due) {
      for (int what = 0; what < 5; what++) {
        x.due("piece 0 " + d[0] + " " + what, d[1 + what]);
      }
    }
    x.due("piece 0 899 0", -1);
  }

  private static void pieces(Sheet x, int k, int[][] due) {
    x.due("skein " + k + " 7", due.length).due("piece " + k + " " + due.length + " 0", -1);
    for (int i = 0; i < due.length; i++) {
      for (int what = 0; what < 5; what++) {
        x.due("piece " + k + " " + i + " " + what, due[i][what]);
      }
    }
  }

  private static void piecesAtTheirEdges() {
    Sheet x = new Sheet("terms 4: one METRE without it parts two PIECES")
        .make("lot 3 7 30 50 0", "pot 64 5", "fill 0 0 0 3").program(0, "if made=0:cast;if made=0:cast;")
        .make("run 0 2").program(0, "drop;").make("run 0 1").program(0, "if ends=1:cast;").make("run 0 2", "cut 0");
    pieces(x, 0, new int[][] {{0, 0, 0, 2, 0}, {0, 1, 0, 5, 0}, {0, 0, 3, 2, 2}});
    Sheet y = flat("terms 4: a PIECE ends with its SKEIN", 3, 64).make("run 0 4", "cut 0");
    pieces(y, 0, new int[][] {{0, 0, 0, 3, 0}});
    pieces(y, 1, new int[][] {{0, 0, 0, 4, 3}});
    Sheet z = longest("terms 4: and at 300 METRES").make("run 0 300", "cut 0");
    pieces(z, 0, new int[][] {{0, 0, 0, 220, 0}, {0, 1, 220, 80, 0}});
    pieces(z, 1, new int[][] {{0, 1, 0, 134, 80}});
    Sheet one = new Sheet("terms 4: PIECES of one METRE, as ENDS stood")
        .make("lot 3 7 30 50 0", "lot 1 85 30 40 10", "lot 1 85 30 40 10", "pot 64 50", "fill 0 2 0 1",
        "fill 0 0 2 1", "fill 0 1 0 1", "fill 0 0 0 1").program(0, "cast;cast;cast;cast;").make("run 0 2", "cut 0");
    pieces(one, 0, new int[][] {{2, 0, 0, 1, 0}, {0, 2, 0, 2, 0}, {1, 0, 0, 1, 0}, {0, 0, 0, 2, 0}});
    Sheet gone = new Sheet("terms 4: with 40 kept its PIECES go, and the next begin anew")
        .make("lot 1 318 60 200 0", "pot 64 5", "fill 0 0 0 1").program(0, "cut;cast;")
        .make("run 0 50").due("count 2", 40).due("skein 39 7", 1).due("piece 39 0 4", 39).due("piece 39 0 2", 0)
        .due("piece 39 0 3", 1);
    gone.due("piece 39 1 0", -1).due("piece 40 0 0", -1);
    Sheet stopped = new Sheet("terms 4: TICKS without a METRE part nothing")
        .make("lot 1 318 60 200 0", "pot 64 5", "fill 0 0 0 1").program(0, "cast;if made=2 and day=0:stop 5;")
        .make("run 0 2", "run 0 3", "day", "run 0 5", "cut 0");
    pieces(stopped, 0, new int[][] {{0, 0, 0, 5, 0}});
  }

  private static void promise20() {
    for (int n = 1; n <= 7; n++) {
      Sheet x = flat("20: d 1 to 5, at most all: of " + n + " METRES", n, 64)
          .refused(-1, "grade 0 1 0", "grade 0 1 -1", "grade 0 1 min", "grade 0 1 max", "grade 0 1 6");
      for (int d = 1; d <= 6; d++) {
        x.due("grade 0 1 " + d, d <= 5 && d <= n ? 0 : -1);
      }
    }
    flat("20: no such SKEIN", 3, 64).refused(-1, "grade -1 1 1", "grade 1 1 1", "grade 40 1 1", "grade min 1 1",
        "grade max 1 1").due("grade 0 1 1", 0)
        .refused(-1, "grade 1 1 1", "grade 0 1 4", "grade 0 1 0", "grade -1 1 3");
    flat("20: any SEED", 3, 64).due("grade 0 min 3", 0).due("grade 0 max 3", 0).due("grade 0 -1 3", 0).due("grade 0 0 3", 0);
    flat("20: a SOLD one is graded, too", 3, 64).make("mix 1 0 2000 true").due("grade 0 1 1", 0).due("skein 0 10", 192);
  }

  private static void gradesByOff() {
    int[][] due = {{0, 0}, {3, 0}, {4, 1}, {8, 1}, {9, 2}, {20, 2}, {21, 3}, {54, 3}};
    for (int[] d : due) {
      flat("terms 4: OFF " + d[0] + " below TARGET", 3, 64 + d[0]).due("grade 0 1 3", d[1]).due("drawn 0", d[0])
          .due("skein 0 8", d[1]);
      flat("terms 4: OFF " + d[0] + " above TARGET", 3, 64 - d[0]).due("grade 0 1 3", d[1]).due("drawn 0", d[0])
          .due("skein 0 8", d[1]);
    }
    flat("terms 4: OFF from the greatest TARGET", 3, 2000).due("grade 0 1 3", 3).due("drawn 0", 1936);
    flat("terms 4: TARGET as it was when CUT", 3, 64).make("target 0 100").due("grade 0 1 3", 0).due("drawn 0", 0);
    // metres 31, 64, 64 at target 62
    Sheet x = new Sheet("terms 4: the greatest difference of a drawn one alone")
        .make("lot 3 7 30 50 0", "pot 62 5", "fill 0 0 0 3").program(0, "if fine < 40 : cast;")
        .make("run 0 3", "cut 0").due("grade 0 0 3", 3).due("drawn 0", 31);
    x.due("grade 0 20 1", 0).due("drawn 2", 2).due("drawn 0", 2).due("grade 0 20 2", 3).due("drawn 3", 0).due("drawn 0", 31);
  }

  private static void drawn(Sheet x, int seed, int... due) {
    x.make("grade 0 " + seed + " " + due.length);
    for (int i = 0; i < due.length; i++) {
      x.due("drawn " + (2 + i), due[i]);
    }
    x.due("drawn " + (2 + due.length), -1);
  }

  private static void drawnOnes() {
    Sheet two = flat("terms 4: 0 behind the last: of two", 2, 64);
    drawn(two, 3, 1, 0);
    Sheet three = flat("terms 4: 0 behind the last: of three", 3, 64);
    drawn(three, 20, 2, 0);
    drawn(three, 4, 2, 0, 1);
    Sheet six = flat("terms 4: the next one behind it that isn't drawn", 6, 64);
    drawn(six, 62, 5, 0);
    drawn(six, 4, 5, 0, 1, 2, 3);
    drawn(six, 8, 4, 5, 0, 1, 2);
    drawn(six, 13, 0, 1, 2, 3, 4);
    drawn(six, 33, 2, 5, 1, 3, 0);
    drawn(six, 36, 5, 1, 2, 4, 0);
    drawn(six, Integer.MAX_VALUE, 5, 1, 0, 2, 3);
    drawn(six, Integer.MIN_VALUE, 2, 0, 4, 1, 3);
    Sheet five = flat("terms 4: all five", 5, 64);
    drawn(five, 7, 2, 1, 3, 4, 0);
    Sheet all = longest("terms 4: of 300");
    drawn(all, 5527, 299, 0);
    drawn(all, Integer.MAX_VALUE, 29, 277, 30, 18, 81);
    drawn(all, Integer.MIN_VALUE, 68, 168, 88, 217, 266);
    Sheet one = flat("terms 4: of one", 1, 64);
    drawn(one, Integer.MAX_VALUE, 0);
  }

  /** Row d - 1 has the bounds of d metres to 27, worked out with fractions. */
  private static final int[][] BOUNDS = {
      {0, 1, 2, 3, 4, 5, 6, 7, 8, 9, 10, 11, 12, 13, 14, 15, 16, 17, 18, 19, 19, 20, 21, 22, 23, 24, 25},
      {0, 1, 2, 3, 4, 4, 5, 6, 7, 8, 8, 9, 10, 11, 12, 12, 13, 14, 15, 15, 16, 17, 18, 19, 19, 20},
      {0, 1, 2, 3, 3, 4, 4, 5, 6, 6, 7, 8, 8, 9, 10, 10, 11, 11, 12, 13, 13, 14, 15, 15, 16},
      {0, 1, 2, 2, 3, 3, 4, 4, 5, 5, 6, 7, 7, 8, 8, 9, 9, 10, 10, 11, 11, 12, 12, 13},
      {0, 1, 1, 2, 2, 3, 3, 4, 4, 5, 5, 6, 6, 7, 7, 8, 8, 8, 9, 9, 10, 10, 11}};

  /** A chance of just 1/20 counts: 1 of 20, 4 3 of 16 15, 3 2 1 of 6 5 4. */
  private static void bounds() {
    for (int n = 1; n <= 27; n++) {
      Sheet x = flat("terms 4: BOUND 0 to METRES - d, 1/20 or more: of " + n + " METRES", n, 64);
      for (int d = 1; d <= Math.min(5, n); d++) {
        x.make("grade 0 3 " + d).due("drawn 1", BOUNDS[d - 1][n - d]);
      }
    }
    int[] most = {285, 232, 188, 157, 134};
    Sheet all = longest("terms 4: BOUND of 300 METRES");
    for (int d = 1; d <= 5; d++) {
      all.make("grade 0 3 " + d).due("drawn 1", most[d - 1]);
    }
  }

  private static void promise21() {
    flat("21: NONE ahead of any", 3, 64).refused(-1, "drawn 0", "drawn 1", "drawn 2", "drawn -1").due("grade 0 1 6", -1)
        .due("drawn 0", -1);
    Sheet x = flat("21: 0, 1, 2 + i; NONE for others", 5, 64).make("grade 0 3 5").due("drawn 0", 0).due("drawn 1", 0);
    x.due("drawn 6", 4).refused(-1, "drawn -1", "drawn 7", "drawn 8", "drawn min", "drawn max");
    flat("21: one drawn METRE", 5, 64).make("grade 0 3 5", "grade 0 3 1").due("drawn 3", -1).due("drawn 1", 4)
        .refused(-1, "drawn 3", "drawn 6", "drawn 7");
    flat("21: the latest grade() that was not NONE", 5, 60).make("grade 0 3 2").due("drawn 0", 4)
        .refused(-1, "grade 0 3 0", "grade 0 3 6", "grade 1 3 2", "grade -1 3 2")
        .make("target 0 64", "run 0 1", "cut 0", "grade 1 3 1").due("drawn 0", 0).due("drawn 1", 0).due("drawn 2", 0)
        .due("drawn 3", -1);
  }
}
