/** The edges that the document names for promises 1 to 5: a sheet for each sentence. */
public final class EdgeLotTest {
  public static void main(String[] args) {
    promise1();
    promise2();
    promise2Numbers();
    howCocoonsAre();
    howCocoonsBreak();
    promise3();
    promise4();
    promise5();
    longestUse();
    Sheet.end();
  }

  private static void promise1() {
    Sheet none = new Sheet("1: no LOTS, no POTS, DAY 0, an empty tape");
    for (int what = 0; what <= 11; what++) {
      none.due("count " + what, 0);
    }
    none.all(-1, "cocoon 0 0 0", "test 0 1 0", "about 0 0", "run 0 0", "cut 0", "program 0", "skein 0 0", "metre 0 0 0",
        "piece 0 0 0",
        "grade 0 1 1", "drawn 0", "place", "mix 1 0 2000 false", "end 1");
    none.all(false, "mixed 0", "fill 0 0 0 1", "target 0 100", "fault 0 1");
    none.due("end 0", 0).due("pay 0 0 0", 0).due("day", 1);
    none.due("fineness 0 0 0", "IndexOutOfBoundsException").due("in 0 0 0", "NoSuchElementException");
    Sheet shelf = new Sheet("1: an empty SHELF");
    for (int place = 0; place < 16; place++) {
      shelf.all(-2, "take " + place + " 0", "take " + place + " 1", "take " + place + " 2").due("number " + place + " 0", -1);
    }
    new Sheet("1: an empty tape is a PROGRAM without RULES").make("pot 10 1").due("program 0", 0).due("place", -1);
  }

  private static void promise2() {
    new Sheet("2: n 1 to 60").refused(-1, "lot 0 7 30 50 0", "lot -1 7 30 50 0", "lot min 7 30 50 0", "lot 61 7 30 50 0",
        "lot max 7 30 50 0")
        .due("lot 1 7 30 50 0", 0).due("cocoon 0 0 1", 0).due("cocoon 0 1 1", -1)
        .due("lot 60 7 30 50 0", 1).due("cocoon 1 59 1", 0).due("cocoon 1 60 1", -1);
    new Sheet("2: BASE 20 to 60").refused(-1, "lot 3 7 19 50 0", "lot 3 7 0 50 0", "lot 3 7 min 50 0", "lot 3 7 61 50 0",
        "lot 3 7 max 50 0")
        .due("lot 3 7 20 50 0", 0).due("cocoon 0 0 3", 21).due("lot 3 7 60 50 0", 1).due("cocoon 1 0 3", 61);
    new Sheet("2: LONG 40 to 200").refused(-1, "lot 3 7 30 39 0", "lot 3 7 30 0 0", "lot 3 7 30 min 0", "lot 3 7 30 201 0",
        "lot 3 7 30 max 0")
        .due("lot 3 7 30 40 0", 0).due("cocoon 0 0 0", 36).due("lot 3 7 30 200 0", 1).due("cocoon 1 0 0", 196);
    new Sheet("2: FRAIL 0 to 200").refused(-1, "lot 3 7 30 50 -1", "lot 3 7 30 50 min", "lot 3 7 30 50 201", "lot 3 7 30 50 max")
        .due("lot 3 7 30 50 0", 0).due("test 0 1 3", 0).due("lot 3 7 30 50 200", 1).due("test 1 1 3", 3);
    new Sheet("2: any SEED").due("lot 1 min 30 50 0", 0).due("lot 1 max 30 50 0", 1).due("lot 1 -1 30 50 0", 2)
        .due("lot 1 0 30 50 0", 3);
    Sheet ten = new Sheet("2: at most 10 LOTS");
    for (int l = 0; l < 10; l++) {
      ten.due("count 0", l).due("lot 60 " + l + " 30 50 0", l);
    }
    ten.refused(-1, "lot 1 1 30 50 0", "lot 60 9 60 200 200").due("count 0", 10).due("cocoon 9 59 1", 0).due("cocoon 10 0 1", -1);
    // behind the last COCOON of a full LOT there is none, though another LOT follows
    ten.make("pot 100 5").refused(-1, "cocoon 0 60 1", "cocoon 8 60 1", "cocoon 9 60 1", "cocoon 1 -1 1", "cocoon 0 -1 1");
    ten.refused("IndexOutOfBoundsException", "fineness 0 60 0", "fineness 9 60 0", "fineness 1 -1 0");
    ten.refused(false, "fill 0 0 60 1", "fill 0 0 59 2", "fill 0 9 59 2", "fill 0 1 -1 1", "shelve 0 0 0 60", "shelve 0 0 9 60",
        "shelve 0 0 1 -1");
    Sheet nine = new Sheet("2: refused ones take no number");
    for (int l = 0; l < 9; l++) {
      nine.due("lot 0 1 30 50 0", -1).due("lot 1 1 30 50 0", l);
    }
    nine.due("lot 61 1 30 50 0", -1).due("lot 1 1 30 50 0", 9).due("lot 1 1 30 50 0", -1);
  }

  private static void promise2Numbers() {
    new Sheet("terms 1: LOTS, numbered as they come, COCOONS from 0 on")
        .make("lot 1 7 30 50 0", "lot 2 7 40 60 0", "lot 3 7 50 70 0")
        .due("cocoon 0 0 0", 46).due("cocoon 1 0 0", 56).due("cocoon 2 0 0", 66).due("cocoon 2 2 0", 54)
        .all(-1, "cocoon 0 1 0", "cocoon 1 2 0", "cocoon 2 3 0", "cocoon 3 0 0");
  }

  private static void howCocoonsAre() {
    // what s + 7919 i and x * 1103515245 + 12345 are beyond an int's range was worked out with whole numbers modulo 2^32
    new Sheet("terms 1: NEXT wraps").make("lot 60 max 40 100 200", "lot 60 min 40 100 200")
        .due("cocoon 0 0 0", 101).due("cocoon 0 0 3", 43).due("cocoon 0 0 4", 3760)
        .due("cocoon 0 1 0", 113).due("cocoon 0 1 3", 38).due("cocoon 0 1 4", 3720)
        .due("cocoon 0 59 0", 84).due("cocoon 0 59 3", 44).due("cocoon 0 59 4", 3197)
        .due("cocoon 1 0 0", 89).due("cocoon 1 0 3", 39).due("cocoon 1 0 4", 3009)
        .due("cocoon 1 1 0", 83).due("cocoon 1 1 3", 43).due("cocoon 1 59 0", 112).due("cocoon 1 59 3", 40);
    new Sheet("terms 1: NEXT wraps where it BREAKS, too").make("lot 2 max 40 100 200", "pot 100 50", "fill 0 0 0 1")
        .program(0, "cast;")
        .due("run 0 2", 2).due("cocoon 0 0 1", 3).make("pot 100 50", "fill 1 0 1 1").program(1, "cast;")
        .due("run 1 1", 1).due("cocoon 0 1 1", 3);
    new Sheet("terms 1: LENGTH g - 20 to g + 20, base b - 4 to b + 4")
        .make("lot 1 102 20 40 0", "lot 1 318 20 40 0", "lot 1 102 60 200 0", "lot 1 318 60 200 0")
        .due("cocoon 0 0 0", 20).due("fineness 0 0 0", 16).due("cocoon 1 0 0", 60).due("fineness 1 0 0", 24)
        .due("cocoon 2 0 0", 180).due("fineness 2 0 0", 56).due("cocoon 3 0 0", 220).due("fineness 3 0 0", 64);
    Sheet thin = new Sheet("terms 1: THIN (8 p / LENGTH), cut").make("lot 1 150 60 200 0");
    int[] steps = {64, 66, 65, 62, 57, 51, 44, 37};
    for (int e = 0; e < 8; e++) {
      thin.due("fineness 0 0 " + 27 * e, steps[e]).due("fineness 0 0 " + (27 * e + 26), steps[e]);
    }
    Sheet uneven = new Sheet("terms 1: THIN where LENGTH (46) has no eighths").make("lot 1 7 30 50 0");
    int[][] turns = {{6, 31, 32}, {12, 32, 31}, {18, 31, 30}, {23, 30, 27}, {29, 27, 25}, {35, 25, 21}, {41, 21, 17}};
    for (int[] t : turns) {
      uneven.due("fineness 0 0 " + (t[0] - 1), t[1]).due("fineness 0 0 " + t[0], t[2]);
    }
  }

  /** Cocoon 51 of LONG 40 has 0 at place 2 for its break, 35 at places 8 and 13, no less elsewhere. */
  private static void howCocoonsBreak() {
    new Sheet("terms 1: it BREAKS if that is below f: 0 is not below 0").make("lot 1 51 30 40 0").due("test 0 1 1", 0)
        .make("pot 50 50", "fill 0 0 0 1").program(0, "cast;").due("run 0 300", 40).due("cocoon 0 0 1", 4);
    new Sheet("terms 1: 0 is below 1").make("lot 1 51 30 40 1").due("test 0 1 1", 1)
        .make("pot 50 50", "fill 0 0 0 1").program(0, "cast;").due("run 0 2", 2).due("cocoon 0 0 1", 2)
        .due("run 0 1", 1).due("cocoon 0 0 1", 3).due("cocoon 0 0 2", 3);
    new Sheet("terms 1: 35 is not below 35").make("lot 1 51 30 40 35", "pot 50 1", "fill 0 0 0 1").program(0, "cast;")
        .due("run 0 9", 9).due("cocoon 0 0 1", 2);
    new Sheet("terms 1: 35 is below 36").make("lot 1 51 30 40 36", "pot 50 1", "fill 0 0 0 1").program(0, "cast;")
        .due("run 0 9", 9).due("cocoon 0 0 1", 3).due("run 0 4", 4).due("cocoon 0 0 1", 2).due("run 0 1", 1)
        .due("cocoon 0 0 1", 3);
    new Sheet("terms 1: FRAIL 200: 199 is below, 200 is not").make("lot 1 388 30 40 200", "lot 1 505 30 40 200", "pot 50 50")
        .make("fill 0 0 0 1", "fill 0 1 0 1").program(0, "cast;cast;").make("run 0 1").due("cocoon 0 0 1", 3)
        .due("cocoon 1 0 1", 2);
  }

  private static void promise3() {
    Sheet x = new Sheet("3: what 0 to 6").make("lot 3 7 30 50 0");
    int[] due = {46, 0, 0, 31, 1237, 0, -1};
    for (int what = 0; what < due.length; what++) {
      x.due("cocoon 0 0 " + what, due[what]);
    }
    x.refused(-1, "cocoon 0 0 -1", "cocoon 0 0 7", "cocoon 0 0 min", "cocoon 0 0 max");
    new Sheet("3: NONE: no such LOT").make("lot 3 7 30 50 0").due("cocoon 0 0 0", 46)
        .refused(-1, "cocoon -1 0 0", "cocoon 1 0 0", "cocoon 9 0 0", "cocoon 10 0 0", "cocoon min 0 0", "cocoon max 0 0");
    new Sheet("3: NONE: no such COCOON").make("lot 3 7 30 50 0", "lot 60 7 30 50 0").due("cocoon 0 2 0", 34)
        .due("cocoon 1 59 2", 0)
        .refused(-1, "cocoon 0 -1 0", "cocoon 0 3 0", "cocoon 0 59 0", "cocoon 0 60 0", "cocoon 1 60 0", "cocoon 1 -1 0",
        "cocoon 0 min 0",
            "cocoon 0 max 0");
    new Sheet("3: FINENESS at its PLACE, 0 if it is SPENT").make("lot 1 102 20 40 0", "pot 50 5", "fill 0 0 0 1")
        .program(0, "cast;")
        .due("cocoon 0 0 3", 16).make("run 0 19").due("cocoon 0 0 3", 9).due("cocoon 0 0 1", 2)
        .make("run 0 1").due("cocoon 0 0 3", 0).due("cocoon 0 0 1", 4).due("cocoon 0 0 2", 20);
    new Sheet("3: SILK drawn: none at first, all at last").make("lot 1 102 20 40 0", "pot 50 5", "fill 0 0 0 1")
        .program(0, "cast;")
        .due("cocoon 0 0 5", 0).due("cocoon 0 0 4", 275).make("run 0 1").due("cocoon 0 0 5", 16).make("run 0 18")
        .due("cocoon 0 0 5", 266)
        .make("run 0 1").due("cocoon 0 0 5", 275).due("cocoon 0 0 4", 275).make("run 0 1").due("cocoon 0 0 5", 275);
    new Sheet("3: the POT that it is in, STANDS 1 to 3 alone").make("lot 2 7 30 50 0", "lot 1 85 30 40 10", "lot 1 102 20 40 0")
        .make("pot 50 50", "pot 50 50", "fill 1 0 0 2", "shelve 0 0 1 0").due("cocoon 0 0 6", 1).due("cocoon 1 0 6", -1)
        .due("cocoon 2 0 6", -1)
        .make("take 0 0", "fill 0 1 0 1", "fill 0 2 0 1").program(0, "cast;cast;").make("run 0 19")
        .due("cocoon 1 0 1", 3).due("cocoon 1 0 6", 0).due("cocoon 2 0 1", 2).due("cocoon 2 0 6", 0).make("run 0 1")
        .due("cocoon 2 0 6", -1)
        .program(1, "throw;").make("run 1 1").due("cocoon 0 1 1", 6).due("cocoon 0 1 6", -1).due("cocoon 0 0 6", 1);
  }

  private static void promise4() {
    String none = "IndexOutOfBoundsException";
    new Sheet("4: at a place 0 to LENGTH - 1").make("lot 3 7 30 50 0").due("fineness 0 0 0", 31).due("fineness 0 0 45", 17)
        .due("fineness 0 2 33", 16)
        .refused(none, "fineness 0 0 -1", "fineness 0 0 46", "fineness 0 2 34", "fineness 0 0 min", "fineness 0 0 max");
    new Sheet("4: there is no such COCOON").make("lot 3 7 30 50 0").due("fineness 0 2 0", 29)
        .refused(none, "fineness 0 -1 0", "fineness 0 3 0", "fineness 0 60 0", "fineness 0 min 0", "fineness 0 max 0");
    new Sheet("4: there is no such LOT").make("lot 3 7 30 50 0")
        .refused(none, "fineness -1 0 0", "fineness 1 0 0", "fineness 10 0 0", "fineness min 0 0", "fineness max 0 0");
    new Sheet("4: of one that is SPENT, too").make("lot 1 102 20 40 0", "pot 50 5", "fill 0 0 0 1").program(0, "cast;")
        .make("run 0 20")
        .due("cocoon 0 0 1", 4).due("fineness 0 0 0", 16).due("fineness 0 0 19", 9).due("fineness 0 0 20", none);
  }

  /** Of lot 6, 3779, 40, 60, 8 the cocoons 0, 3 and 5 break. */
  private static void promise5() {
    Sheet all = new Sheet("5: n 0 to as many as are of STAND 0").make("lot 6 3779 40 60 8").due("test 0 1 0", 0)
        .due("test 0 1 6", 3)
        .refused(-1, "test 0 1 -1", "test 0 1 7", "test 0 1 min", "test 0 1 max");
    all.make("shelve 0 0 0 0").due("test 0 1 5", 2).due("test 0 1 6", -1);
    new Sheet("5: no such LOT").make("lot 6 3779 40 60 8").refused(-1, "test -1 1 0", "test 1 1 0", "test 10 1 0",
        "test min 1 0", "test max 1 0");
    new Sheet("5: a LOT of which none is of STAND 0").make("lot 2 85 30 40 10", "pot 50 5", "fill 0 0 0 2").due("test 0 1 0", 0)
        .refused(-1, "test 0 1 1", "test 0 1 2", "test 0 1 -1");
    new Sheet("5: of 60, all drawn").make("lot 60 9 30 40 0", "lot 60 9 30 40 200").due("test 0 max 60", 0)
        .due("test 1 min 60", 60)
        .due("test 1 min 61", -1).due("test 1 5 59", 59);
    Sheet idle = new Sheet("5: none is moved").make("lot 6 3779 40 60 8", "pot 50 5");
    idle.still(3, "test 0 1 6").still(0, "test 0 1 0", "test 0 1 1").due("fill 0 0 0 6", true);
    new Sheet("5: BREAK anywhere: at the first place, the last, not behind it")
        .make("lot 1 85 30 40 10", "lot 1 515 30 40 10", "lot 1 1250 30 40 10").due("test 0 1 1", 1).due("test 1 1 1", 1)
        .due("test 2 1 1", 0);
    new Sheet("5: those of STAND 0, in order, without the others").make("lot 6 3779 40 60 8", "pot 50 5", "fill 0 0 0 1",
        "shelve 0 0 0 5")
        .due("test 0 0 1", 0).due("test 0 1 4", 1).due("test 0 1 5", -1).make("take 0 0").due("test 0 1 5", 2);
    int[][] due = {{0, 1, 1, 1, 2, 2, 3}, {0, 0, 0, 1, 2, 3, 3}, {0, 0, 0, 1, 1, 2, 3}, {0, 0, 1, 1, 1, 2, 3},
        {0, 1, 1, 2, 2, 2, 3}, {0, 0, 1, 1, 2, 2, 3}, {0, 0, 1, 2, 2, 2, 3}, {0, 1, 1, 1, 2, 3, 3}};
    Sheet draws = new Sheet("5: (x >>> 16) % how many are left").make("lot 6 3779 40 60 8");
    for (int seed = 0; seed < due.length; seed++) {
      for (int n = 0; n <= 6; n++) {
        draws.due("test 0 " + seed + " " + n, due[seed][n]);
      }
    }
    new Sheet("5: the draw's x wraps").make("lot 6 3779 40 60 8").due("test 0 max 1", 1).due("test 0 max 2", 1)
        .due("test 0 max 3", 2).due("test 0 min 1", 0).due("test 0 min 2", 0).due("test 0 min 3", 1);
  }

  private static void longestUse() {
    Sheet x = new Sheet("an object is used for 512 calls");
    for (int d = 1; d < 512; d++) {
      x.due("day", d);
    }
    x.due("count 3", 511);
  }
}
