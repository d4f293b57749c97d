/** Promises 9 to 12: the tape, programs and the places of their faults. */
public final class ProgramTest {
  private static final Check CHECK = new Check();
  private static final String TWELVE = "cast;drop;find;throw;cut;stop 1;cast;drop;find;throw;cut;stop 2;";

  public static void main(String[] args) {
    tape();
    order();
    programsThatHold();
    endsOfTheText();
    tokensThatCannotStand();
    tokensThatAreNone();
    tooMany();
    whatAFaultLeaves();
    longestProgram();
    CHECK.end();
  }

  private static void tape() {
    SilkMill x = new SilkMill();
    for (int i = 1; i <= 20; i++) {
      CHECK.due("feed " + i, x.feed(i, i, i, i, i), 20 * i);
    }
    CHECK.due("more than 400", x.feed(0, 0, 0, 0, 0), SilkMill.NONE);
    CHECK.due("it has 400", x.count(4), 400);
    CHECK.due("more than it has", x.end(401), SilkMill.NONE);
    CHECK.due("below 0", x.end(-1), SilkMill.NONE);
    CHECK.due("far below 0", x.end(Integer.MIN_VALUE), SilkMill.NONE);
    CHECK.due("far above", x.end(Integer.MAX_VALUE), SilkMill.NONE);
    CHECK.due("all", x.end(400), 400);
    CHECK.due("381", x.end(381), 381);
    CHECK.due("no room for twenty", x.feed(0, 0, 0, 0, 0), SilkMill.NONE);
    CHECK.due("it has 381", x.count(4), 381);
    CHECK.due("380", x.end(380), 380);
    CHECK.due("room for twenty", x.feed(0, 0, 0, 0, 0), 400);
    CHECK.due("none", x.end(0), 0);
    CHECK.due("it has none", x.count(4), 0);
    CHECK.due("less is there", x.end(1), SilkMill.NONE);
  }

  /** "if fine < 40 : cast;" as five numbers, then a second text behind its first two bytes. */
  private static void order() {
    SilkMill x = new SilkMill();
    x.pot(100, 5);
    x.feed(0x69662066, 0x696e6520, 0x3c203430, 0x203a2063, 0x6173743b);
    CHECK.due("one RULE", x.program(0), 1);
    x.feed(0x63757400, 0, 0, 0, 0);
    x.end(3);
    x.feed(0x3b737467, 0, 0, 0, 0);
    CHECK.due("behind what it has", x.count(4), 23);
    CHECK.due("a word that can't stand", x.program(0), -9);
    CHECK.due("its place", x.place(), 4);
  }

  private static void ask(String text, int due, int place) {
    SilkMill x = new SilkMill();
    x.pot(100, 5);
    String shown = text.replace('\n', '|');
    CHECK.due("program " + shown, Check.program(x, 0, text), due);
    CHECK.due("place of the fault in " + shown, x.place(), place);
    CHECK.due("RULES of " + shown, x.about(0, 9), Math.max(0, due));
  }

  private static void holds(String text, int rules) {
    ask(text, rules, SilkMill.NONE);
  }

  private static void programsThatHold() {
    holds("", 0);
    holds(" \n ", 0);
    holds("cast;", 1);
    holds("\n cast \n; ", 1);
    holds("cast;drop;find;throw;cut;stop 7;", 6);
    holds("stop12;stop 0;stop 0000;stop 9999;", 4);
    holds("if fine<1:cut;if ends=2:cut;if basket>3:cut;if lost<4:cut;if made=5:cut;if thin>6:cut;if day=7:cut;", 7);
    holds("if ends<3and basket>2and lost=0000:cast;", 1);
    holds("if\nends\n<\n3\nand\nday\n>\n1\n:\nstop\n4\n;", 1);
    holds("if fine<1 and fine<2 and fine<3 and fine<4:cut;", 1);
    holds(TWELVE, 12);
    holds(TWELVE + " \n", 12);
  }

  private static void endsOfTheText() {
    String whole = "if ends<3 and day=1:stop 5;";
    for (String part : new String[] {"if", "if ends", "if ends<", "if ends<3", "if ends<3 and", "if ends<3 and day=1",
        "if ends<3 and day=1:", "if ends<3 and day=1:stop", "if ends<3 and day=1:stop 5"}) {
      ask(part, -9, part.length());
      ask(part + " \n ", -9, part.length() + 3);
    }
    holds(whole, 1);
    ask("cast", -9, 4);
    ask(whole + "cut", -9, whole.length() + 3);
  }

  private static void tokensThatCannotStand() {
    ask("ends<3:cast;", -9, 0);
    ask(";", -9, 0);
    ask("  :", -9, 2);
    ask("12;", -9, 0);
    ask("and ends<3:cast;", -9, 0);
    ask("cast;;", -9, 5);
    ask("cast 3;", -9, 5);
    ask("cast cast;", -9, 5);
    ask("cast:", -9, 4);
    ask("stop;", -9, 4);
    ask("stop stop;", -9, 5);
    ask("stop 1 2;", -9, 7);
    ask("if cast<3:cast;", -9, 3);
    ask("if if ends<3:cast;", -9, 3);
    ask("if :cast;", -9, 3);
    ask("if ends 3:cast;", -9, 8);
    ask("if ends:cast;", -9, 7);
    ask("if ends<=3:cast;", -9, 8);
    ask("if ends<ends:cast;", -9, 8);
    ask("if ends<3 cast;", -9, 10);
    ask("if ends<3;", -9, 9);
    ask("if ends<3 and:cast;", -9, 13);
    ask("if ends<3 and and ends<3:cast;", -9, 14);
    ask("if ends<3:if ends<4:cast;", -9, 10);
    ask("if ends<3:ends;", -9, 10);
    ask("if ends<3:;", -9, 10);
    ask("if ends<3:cast and drop;", -9, 15);
    ask("ifends<3:cast;", -9, 0);
    ask("castcast;", -9, 0);
    ask("if ends<3andbasket>2:cast;", -9, 9);
    ask("if end<3:cast;", -9, 3);
    ask("if endss<3:cast;", -9, 3);
    ask("xast;", -9, 0);
    ask("casx;", -9, 0);
    ask("cutz;", -9, 0);
    ask("cuta;", -9, 0);
    ask("cut;cast;x;", -9, 9);
  }

  private static void tokensThatAreNone() {
    ask("stop 12345;", -9, 5);
    ask("if ends<00003:cast;", -9, 8);
    ask("abcdefghi;", -9, 0);
    ask("Cast;", -9, 0);
    ask("cAst;", -9, 0);
    ask("caSt;", -9, 0);
    ask("cutS;", -9, 3);
    ask("cast,", -9, 4);
    ask("cast;\tcut;", -9, 5);
    ask("cast;\rcut;", -9, 5);
    ask("cast;\0", -9, 5);
    ask("cast;\u00e1", -9, 5);
    ask("cast;\u00a0", -9, 5);
    ask("stop -1;", -9, 5);
    ask("if ends!3:cast;", -9, 7);
    ask("if ends<3.5:cast;", -9, 9);
    ask("cast;`", -9, 5);
    ask("cast;{", -9, 5);
    ask("stop /;", -9, 5);
    ask("\u00ff", -9, 0);
  }

  private static void tooMany() {
    int at = TWELVE.length();
    ask(TWELVE + "cut;", -8, at);
    ask(TWELVE + "\n cut;", -8, at + 2);
    ask(TWELVE + "cut", -8, at);
    ask(TWELVE + "if", -8, at);
    ask(TWELVE + "stop", -8, at);
    ask(TWELVE + "and", -9, at);
    ask(TWELVE + ";", -9, at);
    ask(TWELVE + "cuts;", -9, at);
    String four = "if fine<1 and ends<2 and day<3 and thin<4 and ";
    ask(four + "made<5:cut;", -8, four.length());
    ask(four + "made", -8, four.length());
    ask(four + "cast<5:cut;", -9, four.length());
    ask(four + ":cut;", -9, four.length());
    ask(four, -9, four.length());
    ask(four.substring(0, four.length() - 4) + "x;", -9, four.length() - 4);
    ask("cast;x;" + four + "made<5:cut;", -9, 5);
    ask("cast;" + four + "made<5:cut;x", -8, 5 + four.length());
  }

  private static void whatAFaultLeaves() {
    SilkMill x = new SilkMill();
    x.lot(3, 7, 30, 50, 0);
    x.pot(100, 5);
    x.pot(100, 5);
    x.fill(0, 0, 0, 3);
    CHECK.due("two RULES", Check.program(x, 0, "if ends<1:cast;stop 0;"), 2);
    CHECK.due("the tape is empty", x.count(4), 0);
    CHECK.due("a fault in the third", Check.program(x, 0, "cast;cast;cast;cast"), -9);
    CHECK.due("the tape is empty", x.count(4), 0);
    CHECK.due("place", x.place(), 19);
    CHECK.due("the POT keeps its own", x.about(0, 9), 2);
    x.run(0, 2);
    CHECK.due("and goes by it", x.about(0, 1), 1);
    CHECK.due("place stays", x.place(), 19);
    Check.type(x, "cut;");
    CHECK.due("no such POT", x.program(2), SilkMill.NONE);
    CHECK.due("the tape stays", x.count(4), 4);
    CHECK.due("that program() had no FAULT", x.place(), SilkMill.NONE);
    CHECK.due("no such POT", x.program(-1), SilkMill.NONE);
    CHECK.due("another POT", x.program(1), 1);
    CHECK.due("each has its own", x.about(0, 9), 2);
    CHECK.due("each has its own", x.about(1, 9), 1);
    CHECK.due("a good one for the first", Check.program(x, 0, "cast;cast;cut;"), 3);
    CHECK.due("the other's stays", x.about(1, 9), 1);
    CHECK.due("a fault again", Check.program(x, 0, "cast"), -9);
    CHECK.due("its place", x.place(), 4);
    CHECK.due("an empty one", x.program(0), 0);
    CHECK.due("no RULES", x.about(0, 9), 0);
    CHECK.due("without FAULT", x.place(), SilkMill.NONE);
    x.run(0, 1);
    CHECK.due("does nothing", x.about(0, 1), 1);
  }

  private static void longestProgram() {
    StringBuilder text = new StringBuilder("cast;");
    while (text.length() < 396) {
      text.append(' ');
    }
    holds(text + "cut;", 2);
    ask(text + "cutx", -9, 396);
    ask(text + " cut", -9, 400);
  }
}
