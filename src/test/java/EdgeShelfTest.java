/** The edges that the document names for promises 22 to 25: a sheet for each sentence. */
public final class EdgeShelfTest {
  public static void main(String[] args) {
    promise22();
    promise22Cocoons();
    promise22Words();
    promise23();
    promise23Stays();
    promise24();
    promise24Beyond();
    promise24Places();
    promise25();
    Sheet.end();
  }

  private static Sheet lots(String sentence) {
    return new Sheet(sentence).make("lot 2 9 30 50 0", "lot 3 7 30 50 0", "pot 100 5");
  }

  private static void promise22() {
    lots("22: 16 PLACES").refused(false, "shelve -1 1 5 0", "shelve 16 1 5 0", "shelve min 1 5 0", "shelve max 1 5 0",
        "shelve -1 0 0 0", "shelve 16 2 1 0")
        .due("shelve 0 1 5 0", true).due("shelve 15 1 6 0", true).due("take 0 1", 5).due("take 15 1", 6);
    lots("22: no such kind").refused(false, "shelve 0 -1 1 1", "shelve 0 3 1 1", "shelve 0 min 1 1", "shelve 0 max 1 1");
    Sheet full = lots("22: a full SHELF");
    for (int place = 0; place < 16; place++) {
      full.due("count 11", place).due("shelve " + place + " 1 " + place + " 0", true);
    }
    full.due("count 11", 16).refused(false, "shelve 0 1 9 9", "shelve 15 1 9 9", "shelve 7 2 1 1", "shelve 7 0 0 0",
        "shelve 16 1 9 9");
    full.due("take 7 1", 7).due("count 11", 15).due("shelve 7 0 0 0", true).due("count 11", 16);
    lots("22: it is not empty: a NUMBER").make("shelve 3 1 7 0").refused(false, "shelve 3 0 0 0", "shelve 3 1 8 0",
        "shelve 3 1 7 0", "shelve 3 2 1 1", "shelve 3 2 0 1")
        .due("take 3 1", 7);
    lots("22: it is not empty: a WORD").make("shelve 3 2 2 7").refused(false, "shelve 3 0 0 0", "shelve 3 1 8 0",
        "shelve 3 2 2 7", "shelve 3 2 8 1").due("take 3 2", 14);
    lots("22: it is not empty: a WORD whose row is missing").make("shelve 3 2 0 7")
        .refused(false, "shelve 3 0 0 0", "shelve 3 1 8 0", "shelve 3 2 0 7", "shelve 3 2 1 7");
    lots("22: it is not empty: a COCOON").make("shelve 3 0 1 1").refused(false, "shelve 3 0 1 1", "shelve 3 0 0 0",
        "shelve 3 1 8 0", "shelve 3 2 1 7").due("take 3 0", 101);
    lots("22: any NUMBER").due("shelve 0 1 min 9", true).due("shelve 1 1 max 9", true).due("shelve 2 1 0 9", true)
        .due("shelve 3 1 -1 max", true)
        .due("take 0 1", Integer.MIN_VALUE).due("take 1 1", Integer.MAX_VALUE).due("take 2 1", 0).due("take 3 1", -1);
  }

  private static void promise22Cocoons() {
    lots("22: no such COCOON").refused(false, "shelve 0 0 -1 0", "shelve 0 0 2 0", "shelve 0 0 10 0", "shelve 0 0 min 0",
        "shelve 0 0 max 0", "shelve 0 0 0 -1",
        "shelve 0 0 0 2", "shelve 0 0 1 3", "shelve 0 0 0 60", "shelve 0 0 0 min", "shelve 0 0 0 max")
        .due("shelve 0 0 0 1", true).due("shelve 1 0 1 2", true).due("cocoon 0 1 1", 5).due("cocoon 1 2 1", 5);
    lots("22: STAND 5").make("shelve 0 0 1 2").refused(false, "shelve 1 0 1 2", "shelve 0 0 1 2").due("take 0 0", 102)
        .due("shelve 1 0 1 2", true);
    lots("22: STAND 1").make("fill 0 1 2 1").refused(false, "shelve 0 0 1 2");
    lots("22: STAND 2").make("fill 0 1 2 1").program(0, "cast;").make("run 0 1").due("cocoon 1 2 1", 2)
        .refused(false, "shelve 0 0 1 2");
    lots("22: STAND 3").make("lot 1 85 30 40 10", "fill 0 2 0 1").program(0, "cast;").make("run 0 1")
        .due("cocoon 2 0 1", 3).refused(false, "shelve 0 0 2 0");
    lots("22: STAND 4").make("lot 1 102 20 40 0", "fill 0 2 0 1").program(0, "cast;").make("run 0 20")
        .due("cocoon 2 0 1", 4).refused(false, "shelve 0 0 2 0");
    lots("22: STAND 6").make("fill 0 1 2 1").program(0, "throw;").make("run 0 1").due("cocoon 1 2 1", 6)
        .refused(false, "shelve 0 0 1 2");
  }

  private static void promise22Words() {
    lots("22: a WORD of 1 to 8").refused(false, "shelve 0 2 -1 5", "shelve 0 2 9 5", "shelve 0 2 min 5", "shelve 0 2 max 5")
        .due("shelve 0 2 1 5", true).due("number 0 0", 5).due("number 0 1", -1)
        .due("shelve 1 2 8 5", true).due("number 1 7", 5).due("number 1 8", -1).due("take 0 2", 5).due("take 1 2", 40);
    lots("22: of a 0 the row is missing").due("shelve 0 2 0 5", true).due("count 11", 1).due("number 0 0", -1)
        .due("take 0 2", -4);
    lots("22: each b").make("shelve 0 2 2 0", "shelve 1 2 2 -3", "shelve 2 2 1 max", "shelve 3 2 1 min").due("take 0 2", 0)
        .due("take 1 2", -6)
        .due("take 2 2", Integer.MAX_VALUE).due("take 3 2", Integer.MIN_VALUE);
    lots("22: a shorter WORD where a longer one was").make("shelve 0 2 8 5").due("take 0 2", 40).make("shelve 0 2 1 7")
        .due("number 0 1", -1).due("take 0 2", 7);
  }

  private static void promise23() {
    Sheet x = lots("23: no such PLACE").make("shelve 0 1 5 0", "shelve 15 1 6 0");
    x.refused(-1, "take -1 1", "take 16 1", "take min 1", "take max 1", "take -1 0", "take 16 2").due("take 0 1", 5)
        .due("take 15 1", 6);
    lots("23: no such kind").make("shelve 0 1 5 0", "shelve 1 0 0 0", "shelve 2 2 1 1", "shelve 3 2 0 1")
        .refused(-1, "take 0 -1", "take 0 3", "take 1 -1", "take 1 3", "take 2 3", "take 3 3", "take 0 min", "take 0 max",
        "take 9 3", "take 9 -1");
    lots("23: a COCOON is in its LOT again").make("shelve 0 0 0 0", "shelve 1 0 1 2").due("take 0 0", 0).due("take 1 0", 102)
        .due("cocoon 0 0 1", 0).due("cocoon 1 2 1", 0)
        .due("count 11", 0).due("fill 0 1 0 3", true);
    lots("23: a NUMBER may be one of these, too").make("shelve 0 1 -1 0", "shelve 1 1 -2 0", "shelve 2 1 -3 0",
        "shelve 3 1 -4 0").due("count 11", 4)
        .due("take 0 1", -1).due("take 1 1", -2).due("take 2 1", -3).due("take 3 1", -4).due("count 11", 0)
        .all(-2, "take 0 1", "take 1 1", "take 2 1", "take 3 1");
    lots("23: a WORD's sum may be one of these, too").make("shelve 0 2 2 -1", "shelve 1 2 4 -1", "shelve 2 2 3 -1")
        .due("take 0 2", -2).due("take 1 2", -4).due("take 2 2", -3)
        .due("count 11", 0);
    lots("23: the sum of its numbers").make("shelve 0 2 3 1", "shelve 1 2 1 7", "copy 1 0 0 2 1").due("take 0 2", 9);
  }

  private static void promise23Stays() {
    lots("23: -2 and it stays: the PLACE is empty").refused(-2, "take 0 0", "take 0 1", "take 0 2", "take 15 0", "take 15 1",
        "take 15 2").due("count 11", 0);
    lots("23: -2 where something was").make("shelve 4 1 5 0", "take 4 1").refused(-2, "take 4 0", "take 4 1", "take 4 2");
    lots("23: -3 and it stays: a COCOON").make("shelve 4 0 1 2").refused(-3, "take 4 1", "take 4 2").due("cocoon 1 2 1", 5)
        .due("take 4 0", 102);
    lots("23: -3 and it stays: a NUMBER").make("shelve 4 1 102 0").refused(-3, "take 4 0", "take 4 2").due("take 4 1", 102);
    lots("23: -3 and it stays: a WORD").make("shelve 4 2 3 2").refused(-3, "take 4 0", "take 4 1").due("take 4 2", 6);
    lots("23: -3: a WORD whose row is missing").make("shelve 4 2 0 2").refused(-3, "take 4 0", "take 4 1");
    lots("23: -4 and it stays: its row is missing").make("shelve 4 2 0 2").refused(-4, "take 4 2", "take 4 2")
        .due("count 11", 1).due("shelve 4 1 1 1", false);
  }

  /** A WORD of four ones on PLACE 0, one of three nines on PLACE 15, one of eight fives on PLACE 7. */
  private static Sheet words(String sentence) {
    return lots(sentence).make("shelve 0 2 4 1", "shelve 15 2 3 9", "shelve 7 2 8 5", "shelve 3 2 0 9", "shelve 4 1 9 0",
        "shelve 5 0 0 0");
  }

  private static void row(Sheet x, int place, int... due) {
    for (int i = 0; i < due.length; i++) {
      x.due("number " + place + " " + i, due[i]);
    }
    x.due("number " + place + " " + due.length, -1);
  }

  private static void promise24() {
    words("24: n 0").still(true, "copy 0 0 15 0 0", "copy 0 4 15 3 0", "copy 15 3 0 4 0", "copy 7 8 0 0 0");
    words("24: n below 0").refused(false, "copy 0 0 15 0 -1", "copy 0 1 15 1 -1", "copy 0 0 15 0 min", "copy 0 4 15 3 -3");
    Sheet one = words("24: n 1, the first and the last");
    row(one.due("copy 0 3 15 2 1", true), 15, 9, 9, 1);
    row(one.due("copy 0 0 15 0 1", true), 15, 1, 9, 1);
    row(one, 0, 1, 1, 1, 1);
    Sheet all = words("24: all of a row into the end of another");
    row(all.due("copy 15 0 0 1 3", true), 0, 1, 9, 9, 9);
    row(all.due("copy 0 0 7 4 4", true), 7, 5, 5, 5, 5, 1, 9, 9, 9);
    Sheet eight = words("24: eight of eight").make("shelve 8 2 8 0");
    row(eight.due("copy 7 0 8 0 8", true), 8, 5, 5, 5, 5, 5, 5, 5, 5);
    eight.refused(false, "copy 7 0 8 0 9", "copy 7 1 8 0 8", "copy 7 0 8 1 8");
    Sheet self = words("24: within one WORD, as they were").make("copy 15 0 0 0 1");
    row(self.due("copy 0 0 0 1 3", true), 0, 9, 9, 1, 1);
    row(self.due("copy 0 1 0 0 3", true), 0, 9, 1, 1, 1);
    row(self.due("copy 0 0 0 0 4", true), 0, 9, 1, 1, 1);
    self.refused(false, "copy 0 0 0 1 4", "copy 0 1 0 0 4");
  }

  private static void promise24Beyond() {
    words("24: beyond the row they come from").refused(false, "copy 0 0 7 0 5", "copy 0 1 7 0 4", "copy 0 4 7 0 1",
        "copy 0 5 7 0 0", "copy 0 -1 7 0 1", "copy 0 -1 7 0 0",
        "copy 0 min 7 0 1", "copy 0 max 7 0 1", "copy 0 1 7 0 max", "copy 0 max 7 0 max").due("copy 0 0 7 0 4", true);
    words("24: beyond the row they go to").refused(false, "copy 7 0 0 0 5", "copy 7 0 0 1 4", "copy 7 0 0 4 1",
        "copy 7 0 0 5 0", "copy 7 0 0 -1 1", "copy 7 0 0 -1 0",
        "copy 7 0 0 min 1", "copy 7 0 0 max 1", "copy 7 0 0 1 max", "copy 7 0 0 max max").due("copy 7 0 0 0 4", true);
    words("24: nothing copied, not even what would go").make("shelve 8 2 1 3")
        .refused(false, "copy 8 0 0 3 2", "copy 0 0 8 0 2", "copy 15 0 0 2 3");
  }

  private static void promise24Places() {
    words("24: no such PLACES").refused(false, "copy -1 0 0 0 0", "copy 16 0 0 0 0", "copy min 0 0 0 0", "copy max 0 0 0 0",
        "copy 0 0 -1 0 0", "copy 0 0 16 0 0",
        "copy 0 0 min 0 0", "copy 0 0 max 0 0", "copy -1 0 16 0 1").due("copy 0 0 15 0 1", true).due("copy 15 1 0 0 1", true);
    words("24: no WORD: an empty PLACE").refused(false, "copy 1 0 0 0 0", "copy 0 0 1 0 0", "copy 1 0 1 0 0", "copy 0 0 1 0 1");
    words("24: no WORD: a NUMBER").refused(false, "copy 4 0 0 0 0", "copy 0 0 4 0 0", "copy 4 0 4 0 0", "copy 0 0 4 0 1");
    words("24: no WORD: a COCOON").refused(false, "copy 5 0 0 0 0", "copy 0 0 5 0 0", "copy 5 0 5 0 0", "copy 0 0 5 0 1");
    words("24: a row that is missing").refused(false, "copy 3 0 0 0 0", "copy 0 0 3 0 0", "copy 3 0 3 0 0", "copy 0 0 3 0 1",
        "copy 3 0 0 0 1");
    words("24: a WORD that was taken").make("take 15 2").refused(false, "copy 15 0 0 0 0", "copy 0 0 15 0 0", "copy 15 0 0 0 1",
        "copy 0 0 15 0 1");
    words("24: a NUMBER where a WORD was").make("take 15 2", "shelve 15 1 3 3")
        .refused(false, "copy 15 0 0 0 1", "copy 0 0 15 0 1").due("take 15 1", 3);
  }

  private static void promise25() {
    words("25: number i of a WORD").due("number 0 0", 1).due("number 0 3", 1).due("number 7 7", 5)
        .refused(-1, "number 0 -1", "number 0 4", "number 15 3", "number 7 8", "number 0 min", "number 0 max");
    words("25: no such PLACE").due("number 15 0", 9).refused(-1, "number -1 0", "number 16 0", "number min 0", "number max 0");
    words("25: NONE without a WORD").refused(-1, "number 1 0", "number 3 0", "number 4 0", "number 5 0");
    words("25: where a WORD was").make("take 0 2").refused(-1, "number 0 0").make("shelve 0 1 7 7").due("number 0 0", -1);
  }
}
