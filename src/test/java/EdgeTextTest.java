/** The edges that the document names for promises 9 to 12 and for a program's text: a sheet for each sentence. */
public final class EdgeTextTest {
  private static final String TWELVE = "cast;drop;find;throw;cut;stop 1;cast;drop;find;throw;cut;stop 2;";
  private static final String FOUR = "if fine<1 and ends<2 and day<3 and thin<4";
  /** Forty bytes; ten of them are a tape that is full. */
  private static final String FORTY = "if day<9and day<9and day<9and day<9:cut;";

  public static void main(String[] args) {
    promise9();
    promise10();
    promise11();
    promise12();
    emptyAndLongestTexts();
    everyByte();
    lengthsOfTokens();
    blanks();
    endOfTheText();
    tokensThatCannotStand();
    thirteenRules();
    fiveConditions();
    firstFromTheLeft();
    Sheet.end();
  }

  private static void reads(String sentence, String text, int answer, int place) {
    new Sheet(sentence + " [" + text.replace('\n', '|') + "]").make("pot 100 5").reads(text, answer, place);
  }

  private static void promise9() {
    Sheet x = new Sheet("9: twenty bytes come behind the tape, at most 400");
    for (int i = 1; i <= 20; i++) {
      x.due("feed 1 2 3 4 5", 20 * i).due("count 4", 20 * i);
    }
    x.refused(-1, "feed 1 2 3 4 5", "feed min max 0 0 0").due("count 4", 400);
    x.due("end 399", 399).refused(-1, "feed 1 2 3 4 5").due("end 381", 381).refused(-1, "feed 1 2 3 4 5").due("count 4", 381);
    x.due("end 380", 380).due("feed 1 2 3 4 5", 400);
    // "cut;" is 0x6375743b
    new Sheet("9: of each number the highest first").make("pot 100 5")
        .make("feed 1668641851 1668641851 1668641851 1668641851 1668641851")
        .due("program 0", 5).make("feed 1668641851 538976288 538976288 538976288 1668641851").due("program 0", 2)
        .make("feed 997487971 0 0 0 0").due("program 0", -9).due("place", 0);
    new Sheet("9: bytes above 127").make("pot 100 5", "feed 1668641851 -1 min -16777216 255").due("program 0", -9).due("place", 4)
        .make("feed -1 -1 -1 -1 -1").due("program 0", -9).due("place", 0);
    new Sheet("9: what is refused leaves the tape as it is").make("pot 100 5").type(FORTY.repeat(10))
        .refused(-1, "feed 0 0 0 0 0")
        .due("program 0", 10).due("place", -1).due("feed 0 0 0 0 0", 20);
  }

  private static void promise10() {
    new Sheet("10: n, 0 to as many as it has").make("feed 1 2 3 4 5").refused(-1, "end 21", "end -1", "end min", "end max",
        "end 400").still(20, "end 20")
        .due("end 1", 1).due("count 4", 1).refused(-1, "end 2").due("end 0", 0).due("count 4", 0);
    new Sheet("10: an empty tape").refused(-1, "end 1", "end -1", "end 20").still(0, "end 0");
    Sheet full = new Sheet("10: a full tape").make("pot 100 5").type(FORTY.repeat(10)).refused(-1, "end 401", "end max")
        .still(400, "end 400");
    full.due("end 399", 399).refused(-1, "end 400").due("program 0", -9).due("place", 399);
    new Sheet("10: the first n bytes alone").make("pot 100 5").type("cut;cast;cut;cast;cut;").make("end 9").due("program 0", 2);
    new Sheet("10: what comes then is behind these").make("pot 100 5").type("cut;castxxxxxxxxxxxx")
        .make("end 8", "feed 996373876 996373876 996373876 991961120 0", "end 24")
        .due("program 0", 5).due("place", -1);
    new Sheet("10: bytes cut off do not come back").make("pot 100 5").type("cut;cast;").make("end 4").due("end 9", -1)
        .due("program 0", 1);
  }

  private static void promise11() {
    new Sheet("11: the tape is empty then").make("pot 100 5").type("cut;").due("program 0", 1).due("count 4", 0)
        .due("program 0", 0)
        .type("cut").due("program 0", -9).due("count 4", 0).due("program 0", 0).type(TWELVE + "cut;").due("program 0", -8)
        .due("count 4", 0);
    Sheet own = new Sheet("11: with a FAULT the POT keeps its own").make("lot 9 7 30 50 0", "pot 100 5", "fill 0 0 0 9")
        .program(0, "cast;cast;")
        .type("cast;cast;cast;cast;x").due("program 0", -9).due("about 0 9", 2).make("run 0 1").due("about 0 1", 2);
    own.type(TWELVE + "cast;").due("program 0", -8).due("about 0 9", 2).make("run 0 1").due("about 0 1", 4)
        .type("if fine<1 and ends<2 and day<3 and thin<4 and made<5:cut;").due("program 0", -8).make("run 0 1")
        .due("about 0 1", 6);
    new Sheet("11: no such POT, the tape stays").make("pot 100 5").program(0, "cast;cast;").type("cut;cut;cut;")
        .stillBut("place", -1, "program -1", "program 1", "program 4", "program min", "program max")
        .due("count 4", 12).due("about 0 9", 2).due("program 0", 3).due("count 4", 0);
    new Sheet("11: no such POT, a tape with a FAULT stays").make("pot 100 5").type("cut;x").due("program 1", -1).due("count 4", 5)
        .due("program 0", -9).due("place", 4);
    new Sheet("11: no POT at all").type("cut;").due("program 0", -1).due("count 4", 4).due("pot 10 1", 0).due("program 0", 1);
    new Sheet("11: how many RULES, 0 to 12").make("pot 100 5").reads("", 0, -1).reads("cut;", 1, -1).reads(TWELVE, 12, -1);
    new Sheet("11: each POT has its own").make("pot 100 5", "pot 100 5", "pot 100 5", "pot 100 5").program(3, "cut;")
        .program(0, "cut;cut;")
        .due("about 0 9", 2).due("about 1 9", 0).due("about 2 9", 0).due("about 3 9", 1).due("program 0", 0)
        .due("about 0 9", 0).due("about 3 9", 1);
  }

  private static void promise12() {
    new Sheet("12: NONE ahead of any").still(-1, "place").make("pot 100 5", "feed 1 2 3 4 5").due("place", -1);
    new Sheet("12: NONE without a FAULT").make("pot 100 5").program(0, "x").due("place", 0).program(0, "cut;").due("place", -1)
        .program(0, " x").due("place", 1).make("program 0").due("place", -1);
    new Sheet("12: of the latest program()").make("pot 100 5").program(0, "cut;x").due("place", 4).program(0, "x").due("place", 0)
        .still(0, "place").type("cut;cut;x").due("place", 0).make("program 0").due("place", 8).make("end 0", "run 0 3")
        .due("place", 8);
    new Sheet("12: the latest program() was for no such POT: it had no FAULT").make("pot 100 5").program(0, "cut;x")
        .due("place", 4)
        .due("program 1", -1).due("place", -1);
    new Sheet("12: the end is how many bytes there are").make("pot 100 5").program(0, "cut").due("place", 3)
        .program(0, "cut;" + " ".repeat(393) + "cut")
        .due("place", 400);
  }

  private static void emptyAndLongestTexts() {
    reads("terms 3: {RULE}: none", "", 0, -1);
    reads("terms 3: {RULE}: blanks alone", " ", 0, -1);
    reads("terms 3: {RULE}: 400 blanks", " \n".repeat(200), 0, -1);
    reads("terms 3: a text of 400 bytes", FORTY.repeat(10), 10, -1);
    reads("terms 3: a RULE in the last bytes of 400", " ".repeat(396) + "cut;", 1, -1);
    reads("terms 3: a FAULT in the last byte of 400", " ".repeat(399) + "x", -9, 399);
    reads("terms 3: a FAULT at the end of 400", " ".repeat(397) + "cut", -9, 400);
    reads("terms 3: a TOKEN of one byte", "x", -9, 0);
    reads("terms 3: each ACT", "cast;drop;find;throw;cut;stop 1;", 6, -1);
    reads("terms 3: each FIELD and REL",
        "if fine<1:cut;if ends=1:cut;if basket>1:cut;if lost<1:cut;if made=1:cut;if thin>1:cut;if day<1:cut;", 7, -1);
  }

  /** Each of the 256 bytes where a letter, a digit, a REL, a colon and a semicolon may stand. */
  private static void everyByte() {
    for (int b = 0; b < 256; b++) {
      char c = (char) b;
      boolean blank = b == 32 || b == 10;
      boolean letter = c >= 'a' && c <= 'z';
      boolean digit = c >= '0' && c <= '9';
      String which = "terms 3: byte " + b + " ";
      reads(which + "ahead of a word", c + "cut;", blank ? 1 : -9, blank ? -1 : 0);
      reads(which + "at the front of an ACT", c + "ut;", c == 'c' ? 1 : -9, c == 'c' ? -1 : blank ? 1 : 0);
      reads(which + "at the front of a FIELD", "if " + c + "nds=1:cut;", c == 'e' ? 1 : -9, c == 'e' ? -1 : blank ? 4 : 3);
      reads(which + "in a FIELD", "if e" + c + "ds=1:cut;", c == 'n' ? 1 : -9, c == 'n' ? -1 : 3);
      reads(which + "in a word", "cas" + c + ";", c == 't' ? 1 : -9, c == 't' ? -1 : 0);
      reads(which + "behind a word", "cast" + c + ";", blank ? 1 : -9, blank ? -1 : letter ? 0 : c == ';' ? 5 : 4);
      reads(which + "behind a NUMBER", "stop 1" + c + ";", blank || digit ? 1 : -9, blank || digit ? -1 : c == ';' ? 7 : 6);
      reads(which + "as a NUMBER", "stop " + c + ";", digit ? 1 : -9, digit ? -1 : blank ? 6 : 5);
      boolean rel = c == '<' || c == '=' || c == '>';
      reads(which + "as a REL", "if ends" + c + "1:cut;", rel ? 1 : -9, rel ? -1 : blank ? 8 : letter ? 3 : 7);
      reads(which + "as a colon", "if ends<1" + c + "cut;", c == ':' ? 1 : -9, c == ':' ? -1 : blank || digit ? 10 : 9);
      reads(which + "as a semicolon", "cut" + c, c == ';' ? 1 : -9, c == ';' ? -1 : blank ? 4 : letter ? 0 : 3);
    }
  }

  private static void lengthsOfTokens() {
    reads("terms 3: a NUMBER of 1 digit", "stop 0;", 1, -1);
    reads("terms 3: a NUMBER of 4 digits", "stop 9999;", 1, -1);
    reads("terms 3: a NUMBER of 4 digits", "stop 0000;", 1, -1);
    reads("terms 3: 5 digits are none", "stop 00000;", -9, 5);
    reads("terms 3: 5 digits are none", "stop 12345;", -9, 5);
    reads("terms 3: many digits are none", "stop 99999999999999;", -9, 5);
    reads("terms 3: a CONDITION's NUMBER of 4 digits", "if ends<9999:cut;", 1, -1);
    reads("terms 3: a CONDITION's NUMBER of 5 digits", "if ends<09999:cut;", -9, 8);
    reads("terms 3: a word of 8 letters can't stand there", "castcast;", -9, 0);
    reads("terms 3: 9 letters are none", "cut;castcastc;", -9, 4);
    reads("terms 3: 9 letters with a word at their front are none", "if basketbaskets<1:cut;", -9, 3);
    reads("terms 3: 400 letters are none", "a".repeat(400), -9, 0);
    reads("terms 3: 400 digits are none", "1".repeat(400), -9, 0);
    reads("terms 3: a word too short", "cu;", -9, 0);
    reads("terms 3: a word too long", "cutt;", -9, 0);
    reads("terms 3: a word too short", "if end<1:cut;", -9, 3);
    reads("terms 3: a word too long", "if days<1:cut;", -9, 3);
    new Sheet("terms 3: NUMBERS are what their digits say").make("pot 100 5").program(0, "stop 0090;").make("run 0 1")
        .due("about 0 4", 89);
  }

  private static void blanks() {
    reads("terms 3: blanks between", " \n if \n ends \n < \n 3 \n and \n day \n > \n 1 \n : \n stop \n 4 \n ; \n ", 1, -1);
    reads("terms 3: or not", "if ends<3and day>1:stop4;cut;", 2, -1);
    reads("terms 3: words need one between", "ifends<3:cut;", -9, 0);
    reads("terms 3: words need one between", "if ends<3andday>1:cut;", -9, 9);
    reads("terms 3: NUMBERS need one between", "stop 1 2;", -9, 7);
    reads("terms 3: a blank parts a word", "ca st;", -9, 0);
    reads("terms 3: a blank parts a word", "cut ting;", -9, 4);
    reads("terms 3: 9, 11, 13 are none", "cut;\tcut;", -9, 4);
    reads("terms 3: 9, 11, 13 are none", "cut;\u000bcut;", -9, 4);
    reads("terms 3: 9, 11, 13 are none", "cut;\rcut;", -9, 4);
  }

  private static void endOfTheText() {
    String[] parts = {"if", "if ends", "if ends<", "if ends<3", "if ends<3 and", "if ends<3 and day", "if ends<3 and day=",
        "if ends<3 and day=1",
        "if ends<3 and day=1:", "if ends<3 and day=1:stop", "if ends<3 and day=1:stop 5", "cut", "stop", "cut;cut", FOUR};
    for (String part : parts) {
      reads("terms 3: the end: how many bytes there are", part, -9, part.length());
      reads("terms 3: the end, behind blanks", part + " \n ", -9, part.length() + 3);
    }
    reads("terms 3: the end behind a RULE", "if ends<3 and day=1:stop 5;", 1, -1);
  }

  private static void tokensThatCannotStand() {
    String[] starts = {";", ":", "<", "=", ">", "7", "and", "ends", "xyz"};
    for (String t : starts) {
      reads("terms 3: can't stand for a RULE", t + " cut;", -9, 0);
      reads("terms 3: can't stand for a second RULE", "cut;" + t + " cut;", -9, 4);
      reads("terms 3: can't stand behind a colon", "if ends<1:" + t + " cut;", -9, 10);
    }
    for (String t : new String[] {"if", "and", "cut", ";", ":", "<", "7", "xyz"}) {
      reads("terms 3: can't stand for a FIELD", "if " + t + " <1:cut;", -9, 3);
      reads("terms 3: can't stand for a FIELD behind and", "if day<1and " + t + " <1:cut;", -9, 12);
    }
    for (String t : new String[] {"if", "and", "cut", "ends", ";", ":", "7"}) {
      reads("terms 3: can't stand for a REL", "if ends " + t + " 1:cut;", -9, 8);
    }
    for (String t : new String[] {"if", "and", "cut", "ends", ";", ":", "<", "="}) {
      reads("terms 3: can't stand for a NUMBER", "if ends<" + t + ":cut;", -9, 8);
      reads("terms 3: can't stand for stop's NUMBER", "stop " + t + ";", -9, 5);
    }
    for (String t : new String[] {"if", "cut", "ends", ";", "<", "=", " 7"}) {
      reads("terms 3: can't stand behind a CONDITION", "if ends<1" + t + " cut;", -9, t.equals(" 7") ? 10 : 9);
    }
    for (String t : new String[] {"if", "and", "cut", "ends", ":", "<", "7"}) {
      reads("terms 3: can't stand behind an ACT", "cut " + t + ";", -9, 4);
    }
    reads("terms 3: a RULE in a RULE", "if ends<1:if ends<1:cut;", -9, 10);
    reads("terms 3: only stop has a NUMBER", "cast 1;", -9, 5);
    reads("terms 3: stop has one", "stop;", -9, 4);
  }

  private static void thirteenRules() {
    int at = TWELVE.length();
    reads("terms 3: twelve RULES", TWELVE, 12, -1);
    reads("terms 3: twelve RULES and blanks", TWELVE + "\n ", 12, -1);
    for (String t : new String[] {"if", "cast", "drop", "find", "throw", "cut", "stop"}) {
      reads("terms 3: 2 at a 13th RULE's first TOKEN", TWELVE + t, -8, at);
      reads("terms 3: 2 at a 13th RULE's first TOKEN, behind blanks", TWELVE + " \n" + t + " 5;", -8, at + 2);
    }
    for (String t : new String[] {"and", "ends", "xyz", "7", ";", ":", "<", "\t", "castcastc", "12345"}) {
      reads("terms 3: 1, if it may not stand there", TWELVE + t, -9, at);
    }
    reads("terms 3: a 13th RULE that is whole", TWELVE + "cut;", -8, at);
    reads("terms 3: twelve RULES of one CONDITION", "if day<9:cut;".repeat(12), 12, -1);
    reads("terms 3: a 13th RULE of one CONDITION", "if day<9:cut;".repeat(13), -8, 156);
    reads("terms 3: a FAULT in the twelfth", "cut;".repeat(11) + "cut", -9, 47);
  }

  private static void fiveConditions() {
    String and = FOUR + " and ";
    int at = and.length();
    reads("terms 3: four CONDITIONS", FOUR + ":cut;", 1, -1);
    for (String t : new String[] {"fine", "ends", "basket", "lost", "made", "thin", "day"}) {
      reads("terms 3: 2 at a fifth CONDITION's FIELD", and + t, -8, at);
      reads("terms 3: 2 at a fifth CONDITION's FIELD", and + t + "<5:cut;", -8, at);
    }
    for (String t : new String[] {"cast", "if", "and", "xyz", "7", ";", ":", "<", "\t", ""}) {
      reads("terms 3: 1, if it may not stand there", and + t, -9, at);
    }
    reads("terms 3: the and ahead of it may stand", FOUR + " and", -9, FOUR.length() + 4);
    reads("terms 3: behind four neither and nor colon", FOUR + " x", -9, FOUR.length() + 1);
    reads("terms 3: four in each RULE", FORTY.repeat(10), 10, -1);
    reads("terms 3: a fifth in the second RULE", FOUR + ":cut;" + and + "made<5:cut;", -8, FOUR.length() + 5 + at);
  }

  private static void firstFromTheLeft() {
    reads("terms 3: the first from the left: 1 ahead of 2", "x;" + TWELVE + "cut;", -9, 0);
    reads("terms 3: the first from the left: 2 ahead of 1", TWELVE + "cut;x", -8, TWELVE.length());
    reads("terms 3: the first from the left: 1 ahead of a fifth", "cut;x;" + FOUR + " and made<5:cut;", -9, 4);
    reads("terms 3: the first from the left: a fifth ahead of 1", FOUR + " and made<x:cut;", -8, FOUR.length() + 5);
    reads("terms 3: a fifth in a 13th RULE: the RULE is first", TWELVE + FOUR + " and made<5:cut;", -8, TWELVE.length());
    reads("terms 3: a TOKEN that is none, ahead of another", "cut;Cut;x;", -9, 4);
  }
}
