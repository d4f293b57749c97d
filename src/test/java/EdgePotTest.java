/** The edges that the document names for promises 6 to 8 and 13 to 16, and for a tick: a sheet for each sentence. */
public final class EdgePotTest {
  private static final String NONE_SUCH = "NoSuchElementException";

  public static void main(String[] args) {
    promise6();
    promise7();
    promise8();
    promise8Stands();
    ticksSearch();
    ticksCastAndDrop();
    rowsThatGoRound();
    ticksFindAndThrow();
    ticksStop();
    ticksDraw();
    fieldsAtTheirEdges();
    longestSkein();
    promise13();
    promise14();
    promise15();
    promise16();
    Sheet.end();
  }

  private static void promise6() {
    new Sheet("6: TARGET 10 to 2000").refused(-1, "pot 9 5", "pot 0 5", "pot -1 5", "pot min 5", "pot 2001 5", "pot max 5")
        .due("pot 10 5", 0).due("about 0 10", 10).due("pot 2000 5", 1).due("about 1 10", 2000);
    new Sheet("6: FIND 1 to 50").refused(-1, "pot 50 0", "pot 50 -1", "pot 50 min", "pot 50 51", "pot 50 max")
        .due("pot 50 1", 0).due("pot 50 50", 1);
    Sheet four = new Sheet("6: at most 4 POTS");
    for (int p = 0; p < 4; p++) {
      four.due("count 1", p).due("pot 100 5", p);
    }
    four.refused(-1, "pot 100 5", "pot 10 1", "pot 2000 50").due("count 1", 4).due("about 3 10", 100).due("about 4 10", -1);
    new Sheet("6: refused ones take no number").due("pot 9 5", -1).due("pot 100 0", -1).due("pot 100 5", 0)
        .due("pot 100 51", -1).due("pot 100 5", 1);
    Sheet first = new Sheet("terms 2: STOP 0 at first, a PROGRAM none at first, rows empty").make("lot 3 7 30 50 0", "pot 100 5");
    for (int what = 0; what <= 9; what++) {
      first.due("about 0 " + what, 0);
    }
    first.all(NONE_SUCH, "in 0 0 0", "in 0 1 0", "in 0 2 0").make("fill 0 0 0 3").due("run 0 9", 0).due("about 0 0", 3)
        .due("about 0 4", 0);
  }

  private static void promise7() {
    new Sheet("7: TARGET 10 to 2000").make("pot 100 5").refused(false, "target 0 9", "target 0 0", "target 0 -10",
        "target 0 min", "target 0 2001",
        "target 0 max").due("target 0 10", true).due("about 0 10", 10).due("target 0 2000", true).due("about 0 10", 2000)
        .due("target 0 2000", true);
    new Sheet("7: no such POT").make("pot 100 5", "pot 200 5").refused(false, "target -1 50", "target 2 50", "target 4 50",
        "target min 50", "target max 50")
        .due("target 1 50", true).due("about 0 10", 100).due("about 1 10", 50);
    new Sheet("7: a SKEIN that is kept has the TARGET of before").make("lot 3 7 30 50 0", "pot 100 5", "fill 0 0 0 3")
        .program(0, "cast;")
        .make("run 0 1", "cut 0", "run 0 1", "target 0 10", "cut 0").due("skein 0 11", 100).due("skein 1 11", 10);
  }

  private static void promise8() {
    new Sheet("8: n of them, 1 to 60").make("lot 60 7 30 50 0", "lot 60 8 30 50 0", "pot 100 5")
        .refused(false, "fill 0 0 0 0", "fill 0 0 0 -1", "fill 0 0 0 min", "fill 0 0 0 61", "fill 0 0 0 max", "fill 0 0 1 max")
        .due("fill 0 0 0 60", true).due("about 0 0", 60).due("in 0 0 59", 59).due("fill 0 1 0 1", true).due("about 0 0", 61);
    new Sheet("8: no such COCOONS").make("lot 5 7 30 50 0", "lot 60 8 30 50 0", "pot 100 5")
        .refused(false, "fill 0 0 -1 1", "fill 0 0 -1 2", "fill 0 0 5 1", "fill 0 0 4 2", "fill 0 0 0 6", "fill 0 1 60 1",
        "fill 0 1 59 2",
            "fill 0 1 1 60", "fill 0 0 min 1", "fill 0 0 max 1", "fill 0 0 max 60", "fill 0 1 2147483600 60")
        .due("fill 0 0 4 1", true).due("fill 0 0 0 4", true).due("fill 0 1 59 1", true).due("in 0 0 0", 4).due("in 0 0 4", 3)
        .due("in 0 0 5", 159);
    new Sheet("8: no such POT").make("lot 5 7 30 50 0", "pot 100 5").refused(false, "fill -1 0 0 1", "fill 1 0 0 1",
        "fill 4 0 0 1", "fill min 0 0 1",
        "fill max 0 0 1").due("fill 0 0 0 1", true);
    new Sheet("8: no such LOT").make("lot 5 7 30 50 0", "pot 100 5").refused(false, "fill 0 -1 0 1", "fill 0 1 0 1",
        "fill 0 10 0 1", "fill 0 min 0 1",
        "fill 0 max 0 1").due("fill 0 0 0 5", true);
    Sheet all = new Sheet("8: a BASKET of all COCOONS there can be").make("pot 100 5");
    for (int l = 0; l < 10; l++) {
      all.make("lot 60 " + l + " 30 50 0").due("fill 0 " + l + " 0 60", true);
    }
    all.due("about 0 0", 600).due("in 0 0 0", 0).due("in 0 0 599", 959).due("in 0 0 600", NONE_SUCH);
    all.program(0, "cast;drop;throw;cast;").due("run 0 2", 2).due("about 0 0", 596).due("in 0 0 595", 957).due("in 0 0 0", 2);
  }

  /** Cocoon 2 of five is of another stand: none of the five goes, those beside it do. */
  private static void promise8Stands() {
    new Sheet("8: one is in a BASKET").make("lot 5 7 30 50 0", "pot 100 5", "pot 100 5", "fill 1 0 2 1")
        .refused(false, "fill 0 0 2 1", "fill 1 0 2 1", "fill 0 0 0 3", "fill 0 0 2 3", "fill 0 0 0 5")
        .due("fill 0 0 0 2", true).due("fill 0 0 3 2", true);
    new Sheet("8: one is an END").make("lot 5 7 30 50 0", "pot 100 5", "pot 100 5", "fill 1 0 2 1").program(1, "cast;")
        .make("run 1 1")
        .due("cocoon 0 2 1", 2).refused(false, "fill 0 0 2 1", "fill 0 0 0 3", "fill 0 0 2 3").due("fill 0 0 3 2", true);
    new Sheet("8: one is LOST").make("lot 1 85 30 40 10", "pot 100 50", "fill 0 0 0 1").program(0, "cast;").make("run 0 1")
        .due("cocoon 0 0 1", 3).refused(false, "fill 0 0 0 1");
    new Sheet("8: one is SPENT").make("lot 2 102 20 40 0", "pot 100 50", "fill 0 0 0 1").program(0, "cast;").make("run 0 20")
        .due("cocoon 0 0 1", 4).refused(false, "fill 0 0 0 1", "fill 0 0 0 2").due("fill 0 0 1 1", true);
    new Sheet("8: one is on the SHELF").make("lot 5 7 30 50 0", "pot 100 5", "shelve 0 0 0 2")
        .refused(false, "fill 0 0 2 1", "fill 0 0 0 3", "fill 0 0 2 3").make("take 0 0").due("fill 0 0 0 5", true);
    new Sheet("8: one is THROWN").make("lot 5 7 30 50 0", "pot 100 5", "fill 0 0 2 1").program(0, "throw;").make("run 0 1")
        .due("cocoon 0 2 1", 6).refused(false, "fill 0 0 2 1", "fill 0 0 0 3", "fill 0 0 2 3").due("fill 0 0 0 2", true);
  }

  /** Cocoon 85 of LONG 40 breaks at its first place alone, 68 at its second, 51 at its third. */
  private static void ticksSearch() {
    new Sheet("terms 2 a: FIND 1").make("lot 1 85 30 40 10", "pot 50 1", "fill 0 0 0 1").program(0, "if made=0:cast;")
        .due("run 0 1", 1).due("about 0 2", 1).due("about 0 5", 0).due("run 0 1", 0).due("about 0 2", 0).due("about 0 5", 0)
        .due("in 0 0 0", 0);
    new Sheet("terms 2 a: FIND 50").make("lot 1 85 30 40 10", "pot 50 50", "fill 0 0 0 1").program(0, "if made=0:cast;")
        .due("run 0 1", 1).due("run 0 49", 0).due("about 0 2", 1).due("about 0 5", 49).due("cocoon 0 0 1", 3)
        .due("run 0 1", 0).due("about 0 2", 0).due("about 0 5", 0).due("cocoon 0 0 1", 1).due("run 0 60", 0).due("about 0 5", 0);
    new Sheet("terms 2 a: the first LOST one alone, SEARCH is 0 for the next")
        .make("lot 1 85 30 40 10", "lot 1 85 30 40 10", "pot 50 2", "fill 0 1 0 1",
        "fill 0 0 0 1").program(0, "if made=0:cast;if made=0:cast;").make("run 0 2").due("about 0 5", 1).due("about 0 2", 2)
        .make("run 0 1").due("about 0 5", 0).due("about 0 2", 1).due("in 0 0 0", 100).due("in 0 2 0", 0)
        .make("run 0 1").due("about 0 5", 1).make("run 0 1").due("about 0 5", 0).due("about 0 2", 0).due("in 0 0 1", 0);
    new Sheet("terms 2 a: it goes on while STOP is above 0").make("lot 1 85 30 40 10", "pot 50 3", "fill 0 0 0 1")
        .program(0, "if lost=1:stop 9;cast;")
        .make("run 0 3").due("about 0 4", 7).due("about 0 5", 2).make("run 0 1").due("about 0 5", 0).due("about 0 0", 1)
        .due("about 0 1", 0).due("about 0 4", 6);
    new Sheet("terms 2: without LOST ones SEARCH is 0, at once").make("lot 1 85 30 40 10", "pot 50 50", "fill 0 0 0 1")
        .program(0, "if made=0:cast;")
        .make("run 0 4").due("about 0 5", 3).program(0, "find;").due("about 0 5", 3).make("run 0 1").due("about 0 5", 0)
        .due("about 0 2", 0);
    new Sheet("terms 2: with LOST ones left SEARCH stays").make("lot 1 85 30 40 10", "lot 1 85 30 40 10", "pot 50 50",
        "fill 0 0 0 1", "fill 0 1 0 1")
        .program(0, "if made=0:cast;if made=0:cast;").make("run 0 4").due("about 0 5", 3).program(0, "if lost=2:find;")
        .make("run 0 1")
        .due("about 0 2", 1).due("about 0 5", 4);
    new Sheet("terms 2: LOST ones, each new one behind the others").make("lot 1 85 30 40 10", "lot 1 68 30 40 10",
        "lot 1 85 30 40 10", "pot 50 50",
        "fill 0 1 0 1", "fill 0 2 0 1", "fill 0 0 0 1").program(0, "cast;cast;cast;").make("run 0 2")
        .due("in 0 2 0", 200).due("in 0 2 1", 0).due("in 0 2 2", 100).due("in 0 2 3", NONE_SUCH).due("about 0 1", 0);
  }

  /** Of lot 9, 5, 30, 60 the fineness is 31, 26, 31, 33, 28, 33, 28, 31, 26 at first. */
  private static void ticksCastAndDrop() {
    Sheet twelve = new Sheet("terms 2 b: cast: at most 12 ENDS").make("lot 15 7 30 50 0", "pot 100 5", "fill 0 0 0 14")
        .program(0, "cast;cast;cast;cast;cast;cast;cast;cast;cast;cast;cast;");
    twelve.make("run 0 1").due("about 0 1", 11).due("about 0 0", 3).program(0, "cast;cast;").make("run 0 1")
        .due("about 0 1", 12).due("about 0 0", 2);
    twelve.due("in 0 1 11", 11).due("in 0 1 12", NONE_SUCH).due("in 0 0 0", 12).make("run 0 1").due("about 0 1", 12);
    new Sheet("terms 2 b: cast: the first of the BASKET, nothing if there is none")
        .make("lot 3 7 30 50 0", "pot 100 5", "fill 0 0 1 2").program(0, "cast;")
        .make("run 0 1").due("in 0 1 0", 1).due("in 0 0 0", 2).make("run 0 1").due("in 0 1 1", 2).due("about 0 0", 0)
        .due("run 0 1", 1).due("about 0 1", 2).due("about 0 0", 0);
    Sheet drop = new Sheet("terms 2 b: drop: the thinnest END, of like ones the first, to the front")
        .make("lot 9 5 30 60 0", "pot 100 5", "fill 0 0 0 9")
        .program(0, "cast;cast;cast;cast;cast;cast;cast;cast;").make("run 0 1").program(0, "if ends>2:drop;");
    int[] order = {1, 4, 6, 0, 2, 7};
    for (int i = 0; i < order.length; i++) {
      drop.make("run 0 1").due("in 0 0 0", order[i]).due("in 0 0 " + (i + 1), 8);
    }
    for (int i = 0; i < order.length; i++) {
      drop.due("in 0 0 " + i, order[order.length - 1 - i]);
    }
    drop.due("in 0 1 0", 3).due("in 0 1 1", 5).due("about 0 1", 2);
    new Sheet("terms 2 b: drop without ENDS").make("lot 3 7 30 50 0", "pot 100 5", "fill 0 0 0 2").program(0, "drop;drop;")
        .due("run 0 3", 0).due("about 0 0", 2).due("about 0 1", 0).due("in 0 0 0", 0);
    new Sheet("terms 2 b: drop the last END").make("lot 3 7 30 50 0", "pot 100 5", "fill 0 0 0 2").program(0, "cast;drop;drop;")
        .due("run 0 3", 0).due("about 0 0", 2).due("in 0 0 0", 0).due("cocoon 0 0 1", 1);
  }

  /** More cocoons go through the basket than a mill can have: what is due was worked out by another program. */
  private static void rowsThatGoRound() {
    Sheet x = new Sheet("terms 2: rows, each new one behind the others, over 1500 METRES").make("pot 100 1");
    for (int l = 0; l < 3; l++) {
      x.make("lot 60 " + l + " 60 200 200", "fill 0 " + l + " 0 60");
    }
    x.program(0, "cast;drop;cast;drop;cast;drop;cast;cast;drop;cast;drop;cast;").all(300, "run 0 300", "run 0 300");
    row(x, 1, 6, 42, 57, 48, 50, 58, 103);
    row(x, 2, 174, 59, 102, 101);
    x.all(300, "run 0 300", "run 0 300", "run 0 300");
    row(x, 1, 3, 101, 106, 58);
    row(x, 2, 177, 100, 45, 59);
    row(x, 0, 0);
    x.due("count 2", 5).due("about 0 7", 1500);
    Sheet y = new Sheet("terms 2: to the front of a BASKET that went round")
        .make("pot 100 1", "lot 60 0 60 200 200", "fill 0 0 0 60")
        .program(0, "if ends<3:cast;if ends<3:cast;if ends<3:cast;cast;cast;drop;drop;");
    y.all(300, "run 0 300", "run 0 300", "run 0 300", "run 0 300");
    row(y, 0, 57, 45, 40, 55, 42, 57, 56);
    y.due("in 0 0 54", 52).due("in 0 0 55", 50).due("in 0 0 56", 47);
    row(y, 1, 1, 51);
    row(y, 2, 2, 48, 31);
  }

  private static void row(Sheet x, int row, int size, int... first) {
    x.due("about 0 " + row, size).due("in 0 " + row + " " + size, NONE_SUCH);
    for (int i = 0; i < first.length; i++) {
      x.due("in 0 " + row + " " + i, first[i]);
    }
  }

  private static void ticksFindAndThrow() {
    new Sheet("terms 2 b: find: nothing without LOST ones").make("lot 3 7 30 50 0", "pot 100 5", "fill 0 0 0 3")
        .program(0, "find;if ends<1:cast;find;")
        .due("run 0 5", 5).due("about 0 4", 0).due("about 0 0", 2);
    new Sheet("terms 2 b: find: the first LOST one, behind the BASKET, STOP is 2 more")
        .make("lot 1 85 30 40 10", "lot 1 85 30 40 10", "lot 1 7 30 50 0",
        "pot 100 50", "fill 0 1 0 1", "fill 0 0 0 1", "fill 0 2 0 1").program(0, "if made=0:cast;if made=0:cast;").make("run 0 1")
        .program(0, "if lost=2:find;").due("run 0 1", 0).due("about 0 4", 1).due("in 0 0 0", 200).due("in 0 0 1", 100)
        .due("in 0 2 0", 0)
        .program(0, "find;find;find;stop 1;").due("run 0 1", 0).due("about 0 4", 0).due("about 0 2", 1)
        .due("run 0 1", 0).due("about 0 4", 2).due("in 0 0 2", 0).due("about 0 2", 0);
    new Sheet("terms 2 b: throw: the last of the BASKET").make("lot 3 7 30 50 0", "pot 100 5", "fill 0 0 0 3")
        .program(0, "throw;")
        .make("run 0 1").due("cocoon 0 2 1", 6).due("cocoon 0 1 1", 1).due("count 10", 859).make("run 0 1").due("cocoon 0 1 1", 6)
        .make("run 0 1").due("cocoon 0 0 1", 6).due("about 0 0", 0).due("count 10", 859 + 1145 + 1237);
    new Sheet("terms 2 b: throw from an empty BASKET").make("lot 3 7 30 50 0", "pot 100 5", "fill 0 0 0 1")
        .program(0, "cast;throw;throw;")
        .due("run 0 3", 3).due("cocoon 0 0 1", 2).due("count 10", 0).due("about 0 0", 0);
    new Sheet("terms 2 b: cut without METRES").make("lot 3 7 30 50 0", "pot 100 5", "fill 0 0 0 1").program(0, "cut;cut;")
        .make("run 0 3")
        .due("count 2", 0).due("count 9", 0).program(0, "cast;cut;cut;").make("run 0 1").due("count 2", 0).make("run 0 1")
        .due("count 2", 1)
        .due("skein 0 2", 1).due("about 0 3", 1);
  }

  private static void ticksStop() {
    new Sheet("terms 2 b: stop n: STOP is n more, 0 to 9999").make("lot 3 7 30 50 0", "pot 100 5", "fill 0 0 0 3")
        .program(0, "stop 0;if ends<1:cast;stop 0000;")
        .due("run 0 3", 3).due("about 0 4", 0).program(0, "stop 9999;").due("run 0 1", 0).due("about 0 4", 9998)
        .due("run 0 300", 0).due("about 0 4", 9698);
    new Sheet("terms 2 b: they add up, and the RULES behind go on").make("lot 3 7 30 50 0", "pot 100 5", "fill 0 0 0 3")
        .program(0, "stop 9999;stop 9999;cast;stop 2;cast;").due("run 0 1", 0).due("about 0 4", 19999).due("about 0 1", 2);
    new Sheet("terms 2 b: if STOP is 0").make("lot 9 7 30 50 0", "pot 100 5", "fill 0 0 0 9").program(0, "stop 2;cast;")
        .make("run 0 1").due("about 0 4", 1).due("about 0 1", 1).make("run 0 1").due("about 0 4", 0).due("about 0 1", 1)
        .make("run 0 1").due("about 0 4", 1).due("about 0 1", 2);
    new Sheet("terms 2 c: STOP above 0 is 1 less, nothing is drawn").make("lot 3 7 30 50 0", "pot 100 5", "fill 0 0 0 1")
        .program(0, "if made=1:stop 1;cast;")
        .due("run 0 1", 1).due("run 0 1", 0).due("about 0 4", 0).due("cocoon 0 0 2", 1).due("about 0 7", 1).due("about 0 8", 2)
        .program(0, "").due("run 0 1", 1).due("cocoon 0 0 2", 2);
    new Sheet("terms 2 c: without ENDS nothing is drawn").make("lot 3 7 30 50 0", "pot 100 5", "fill 0 0 0 3")
        .due("run 0 5", 0).due("about 0 3", 0)
        .due("about 0 7", 0).due("about 0 8", 5).due("count 6", 0).due("cut 0", -1);
  }

  private static void ticksDraw() {
    new Sheet("terms 2 c: it BREAKS at the first place").make("lot 1 85 30 40 10", "pot 50 50", "fill 0 0 0 1")
        .program(0, "cast;")
        .due("run 0 1", 1).due("cocoon 0 0 1", 3).due("cocoon 0 0 2", 1).due("about 0 1", 0).due("about 0 2", 1);
    new Sheet("terms 2 c: it BREAKS at the last place but one").make("lot 1 7 30 40 10", "pot 50 50", "fill 0 0 0 1")
        .program(0, "cast;")
        .due("run 0 34", 34).due("cocoon 0 0 1", 2).due("run 0 1", 1).due("cocoon 0 0 1", 3).due("cocoon 0 0 2", 35);
    new Sheet("terms 2 c: at LENGTH it is SPENT, though it BREAKS at the last place")
        .make("lot 1 515 30 40 10", "pot 50 50", "fill 0 0 0 1").program(0, "cast;")
        .due("run 0 43", 43).due("cocoon 0 0 1", 2).due("run 0 1", 1).due("cocoon 0 0 1", 4).due("cocoon 0 0 2", 44)
        .due("about 0 2", 0).due("run 0 9", 0);
    new Sheet("terms 2 c: LENGTH - 1 is not SPENT").make("lot 1 102 20 40 0", "pot 50 50", "fill 0 0 0 1").program(0, "cast;")
        .due("run 0 19", 19).due("cocoon 0 0 1", 2).due("run 0 2", 1).due("cocoon 0 0 1", 4).due("about 0 1", 0);
    new Sheet("terms 2 c: END by END in order; those that stay keep it")
        .make("lot 1 85 30 40 10", "lot 3 7 30 50 0", "lot 1 85 30 40 10", "pot 50 50", "fill 0 1 0 1",
        "fill 0 2 0 1", "fill 0 1 1 1", "fill 0 0 0 1", "fill 0 1 2 1").program(0, "cast;cast;cast;cast;cast;").make("run 0 1")
        .due("in 0 1 0", 100).due("in 0 1 1", 101).due("in 0 1 2", 102).due("in 0 1 3", NONE_SUCH).due("in 0 2 0", 200)
        .due("in 0 2 1", 0);
    new Sheet("terms 2 c: all ENDS SPENT or LOST in one METRE").make("lot 1 85 30 40 10", "lot 1 85 30 40 10", "pot 50 50",
        "fill 0 0 0 1", "fill 0 1 0 1")
        .program(0, "cast;cast;").due("run 0 1", 1).due("about 0 1", 0).due("about 0 2", 2).due("run 0 1", 0).due("cut 0", 0)
        .due("metre 0 0 1", 2);
  }

  /** Two ends of fineness 31 and 33, three in the basket, one lost, three metres, on day 2. */
  private static Sheet atThree(String sentence) {
    return new Sheet(sentence).make("lot 1 51 30 40 10", "lot 5 7 30 50 0", "pot 100 50", "fill 0 0 0 1", "fill 0 1 0 5")
        .program(0, "if made=0:cast;if made=0:cast;if made=0:cast;").make("run 0 3", "day", "day");
  }

  /** A tick with a stop draws nothing, so that conditions asked one after another see the same pot. */
  private static void holds(Sheet x, String condition, boolean due) {
    x.program(0, "stop 1;if " + condition + ":stop 1;").make("run 0 1").due("about 0 4", due ? 1 : 0)
        .make("run 0 " + (due ? 1 : 0));
  }

  private static void fieldsAtTheirEdges() {
    String[] names = {"fine", "ends", "basket", "lost", "made", "thin", "day"};
    int[] values = {64, 2, 3, 1, 3, 31, 2};
    for (int f = 0; f < names.length; f++) {
      Sheet x = atThree("terms 3: FIELD " + names[f] + " and REL at the number itself, below and above it");
      for (int by = -1; by <= 1; by++) {
        int n = values[f] + by;
        holds(x, names[f] + "<" + n, by > 0);
        holds(x, names[f] + "=" + n, by == 0);
        holds(x, names[f] + ">" + n, by < 0);
      }
    }
    new Sheet("terms 3: fields of a POT without anything are 0").make("pot 100 5")
        .program(0, "if fine=0 and ends=0 and basket=0 and lost=0:stop 4;if made=0 and thin=0 and day=0:stop 8;")
        .make("run 0 1").due("about 0 4", 11);
    new Sheet("terms 3: none is below 0 or above 9999").make("pot 100 5")
        .program(0, "if ends<0:stop 1;if thin>0:stop 2;if fine>9999:stop 4;if day<0:stop 8;if made>9999:stop 16;")
        .make("run 0 1").due("about 0 4", 0);
    new Sheet("terms 3: four CONDITIONS, all must hold").make("pot 100 5")
        .program(0, "if ends=0 and lost=0 and made=0 and day=0:stop 1;if ends=1 and lost=0 and made=0 and day=0:stop 2;"
            + "if ends=0 and lost=1 and made=0 and day=0:stop 4;if ends=0 and lost=0 and made=1 and day=0:stop 8;"
            + "if ends=0 and lost=0 and made=0 and day=1:stop 16;").make("run 0 1").due("about 0 4", 0)
        .program(0, "if ends=0 and lost=0 and made=0 and day=0:stop 1;stop 1;").make("run 0 1").due("about 0 4", 1);
  }

  /** Lot 2, 318, 60, 200: 220 and 214 metres of silk 12272 and 11221, of which 80 metres of the second are 4880. */
  private static Sheet longCocoons(String sentence) {
    return new Sheet(sentence).make("lot 2 318 60 200 0", "pot 100 5", "fill 0 0 0 2");
  }

  private static void longestSkein() {
    longCocoons("terms 2 c: a SKEIN of 300 METRES is CUT at once").program(0, "if ends<1:cast;").due("run 0 299", 299)
        .due("count 2", 0)
        .due("about 0 3", 299).due("run 0 1", 1).due("count 2", 1).due("about 0 3", 0).due("skein 0 2", 300)
        .due("skein 0 3", 12272 + 4880)
        .due("metre 0 299 1", 1).due("metre 0 300 1", -1).due("about 0 7", 300).due("count 8", 0).due("cut 0", -1)
        .due("run 0 1", 1).due("about 0 3", 1);
    longCocoons("terms 2 c: in the midst of a run").program(0, "if ends<1:cast;").make("run 0 250").due("run 0 100", 100)
        .due("count 2", 1)
        .due("about 0 3", 50).due("skein 0 2", 300).due("about 0 7", 350);
    longCocoons("terms 2 c: made is never 300").program(0, "if ends<1:cast;if made=300:stop 9;if made>299:stop 9;")
        .due("run 0 300", 300).due("run 0 1", 1)
        .due("about 0 4", 0);
    longCocoons("terms 2 c: METRES that were cut off do not count for it").program(0, "if ends<1:cast;")
        .make("run 0 200", "cut 0").due("run 0 200", 200)
        .due("count 2", 1).due("about 0 3", 200);
    longCocoons("terms 2: with 40 kept one of 300 METRES goes as WASTE").program(0, "cut;if ends<1:cast;").make("run 0 41")
        .due("count 2", 40)
        .due("cut 0", -2).due("count 9", 66).program(0, "if ends<1:cast;").due("run 0 299", 299).due("about 0 3", 299)
        .due("count 9", 66)
        .due("run 0 1", 1).due("about 0 3", 0).due("count 2", 40).due("count 8", 0).due("skein 40 0", -1)
        .due("count 9", 12272 + 11221 - 28 * 64 - 12 * 66 - LEFT_OF_SECOND);
  }

  /** After 341 metres in all: what the second cocoon still has from place 121 on. */
  private static final int LEFT_OF_SECOND = 4016;

  private static void promise13() {
    new Sheet("13: so many TICKS, 0 to 300").make("lot 3 7 30 50 0", "pot 100 5", "fill 0 0 0 1").program(0, "cast;")
        .refused(-1, "run 0 -1", "run 0 min", "run 0 301", "run 0 max").still(0, "run 0 0").due("about 0 8", 0)
        .due("run 0 1", 1).due("about 0 8", 1).due("run 0 300", 45).due("about 0 8", 301).due("about 0 7", 46);
    new Sheet("13: no such POT").make("lot 3 7 30 50 0", "pot 100 5", "fill 0 0 0 1").program(0, "cast;")
        .refused(-1, "run -1 1", "run 1 1", "run 4 1", "run 1 0", "run -1 0", "run min 1", "run max 1").due("run 0 1", 1);
  }

  private static void promise14() {
    Sheet x = atThree("14: what 0 to 10");
    int[] due = {3, 2, 1, 3, 0, 0, 64, 3, 3, 3, 100};
    for (int what = 0; what < due.length; what++) {
      x.due("about 0 " + what, due[what]);
    }
    x.refused(-1, "about 0 -1", "about 0 11", "about 0 min", "about 0 max");
    atThree("14: no such POT").refused(-1, "about -1 0", "about 1 0", "about 1 10", "about 4 0", "about min 0", "about max 0");
    new Sheet("14: FINENESS without ENDS").make("pot 100 5").due("about 0 6", 0);
    Sheet most = new Sheet("14: FINENESS of twelve ENDS").make("lot 12 7 30 50 0", "pot 100 5", "fill 0 0 0 12")
        .program(0, "cast;cast;cast;cast;cast;cast;cast;cast;cast;cast;cast;cast;").make("run 0 1");
    most.due("about 0 1", 12).due("about 0 6", 31 + 33 + 29 + 33 + 29 + 31 + 27 + 31 + 26 + 31 + 33 + 29);
  }

  private static void promise15() {
    atThree("15: the i-th COCOON in a row").due("in 0 0 0", 102).due("in 0 0 2", 104).due("in 0 1 0", 100)
        .due("in 0 1 1", 101).due("in 0 2 0", 0)
        .refused(NONE_SUCH, "in 0 0 -1", "in 0 0 3", "in 0 1 -1", "in 0 1 2", "in 0 2 -1", "in 0 2 1", "in 0 0 min",
        "in 0 0 max", "in 0 1 max",
            "in 0 2 max", "in 0 1 12", "in 0 0 600");
    atThree("15: no such row").refused(NONE_SUCH, "in 0 -1 0", "in 0 3 0", "in 0 min 0", "in 0 max 0");
    atThree("15: no such POT").refused(NONE_SUCH, "in -1 0 0", "in 1 0 0", "in 4 0 0", "in min 0 0", "in max 0 0");
    new Sheet("15: rows that are empty").make("pot 100 5").refused(NONE_SUCH, "in 0 0 0", "in 0 1 0", "in 0 2 0");
    new Sheet("15: rows that became empty").make("lot 1 85 30 40 10", "pot 100 1", "fill 0 0 0 1")
        .program(0, "if made=0:cast;").make("run 0 1")
        .all(NONE_SUCH, "in 0 0 0", "in 0 1 0").due("in 0 2 0", 0).make("run 0 1").due("in 0 0 0", 0).due("in 0 2 0", NONE_SUCH);
    new Sheet("15: LOT times 100 and its number").make("lot 1 1 30 50 0", "lot 60 2 30 50 0", "pot 50 5", "fill 0 1 59 1",
        "fill 0 0 0 1")
        .due("in 0 0 0", 159).due("in 0 0 1", 0);
  }

  private static void promise16() {
    longCocoons("16: no METRES").refused(-1, "cut 0").program(0, "cast;").make("run 0 1").due("cut 0", 0)
        .refused(-1, "cut 0", "cut 0");
    longCocoons("16: no such POT").program(0, "cast;").make("run 0 1").refused(-1, "cut -1", "cut 1", "cut 4", "cut min",
        "cut max").due("cut 0", 0);
    Sheet x = longCocoons("16: at most 40 are kept; -2: it goes as WASTE").program(0, "if ends<1:cast;");
    for (int k = 0; k < 40; k++) {
      x.make("run 0 1").due("cut 0", k);
    }
    x.make("run 0 2").due("count 8", 132).due("cut 0", -2).due("count 2", 40).due("count 9", 132).due("count 8", 0)
        .due("about 0 3", 0)
        .due("count 6", 28 * 64 + 14 * 66).due("count 7", 28 * 64 + 12 * 66).due("skein 39 2", 1).due("skein 40 2", -1)
        .refused(-1, "cut 0").make("run 0 1").due("cut 0", -2).due("count 9", 198);
    longCocoons("16: by a RULE, too: the 40th is kept, the 41st goes").program(0, "cut;if ends<1:cast;").make("run 0 40")
        .due("count 2", 39).due("count 9", 0)
        .make("run 0 1").due("count 2", 40).due("count 9", 0).make("run 0 1").due("count 2", 40).due("count 9", 66)
        .due("about 0 3", 1);
    new Sheet("16: a number from 0 on, over all POTS").make("lot 2 318 60 200 0", "pot 100 5", "pot 200 5", "fill 0 0 0 1",
        "fill 1 0 1 1").program(0, "cast;")
        .program(1, "cast;").make("run 0 1", "run 1 1", "day").due("cut 1", 0).due("cut 0", 1).due("skein 0 0", 1)
        .due("skein 1 0", 0).due("skein 0 1", 1)
        .due("skein 0 11", 200);
  }
}
