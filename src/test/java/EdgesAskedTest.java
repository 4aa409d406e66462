/**
 * The sentences on what is asked (Terms 2, SEEN and WHICH of Terms 3, promises 6 to 8 and 15 to 20)
 * that name an edge, in the document's order.
 */
public final class EdgesAskedTest {
  private static final int UNKNOWN = StillThere.UNKNOWN, OUTSIDE = StillThere.OUTSIDE, FULL = StillThere.FULL,
      NONE = StillThere.NONE;
  private static final int[] FAR = {Integer.MIN_VALUE, Integer.MAX_VALUE};
  private static final Edge edge = new Edge("EdgesAskedTest");

  public static void main(String[] args) {
    nothingIsChanged();
    aheadIsBehindTicks();
    noticed();
    endured();
    enduredForSixtyTicks();
    enduredNone();
    lostOnesAreSent();
    letters();
    judgedDoings();
    judgedTicks();
    judgedTurned();
    judgedPolled();
    judgedAsked();
    judgedFigures();
    seen();
    seenStays();
    which();
    whichBringsNoPoll();
    setsAreBits();
    end();
    known();
    way();
    ahead();
    judge();
    see();
    unsee();
    edge.end();
  }

  private static void nothingIsChanged() {
    edge.sentence("In what follows nothing is changed.");
    for (int end = 0; end < 2; end++) {
      int e = end;
      edge.leaves("end(" + e + ",12)", x -> x.end(e, 12));
      edge.leaves("end(" + e + ",13)", x -> x.end(e, 13));
    }
    for (int what = 0; what < 4; what++) {
      int w = what;
      edge.leaves("ahead(99," + w + ")", x -> x.ahead(99, w));
    }
    edge.leaves("letters(99)", x -> x.letters(99));
    edge.leaves("judge(4,..), ticks and turns", x -> x.judge(4, 130201300130L));
    edge.leaves("judge(4,..), polls", x -> x.judge(4, 130401102610L));
    edge.leaves("judge(4,..), what can not be", x -> x.judge(4, 201301999130L));
    edge.leaves("which()", StillThere::which);
    for (int setting = 0; setting < 4; setting++) {
      int s = setting;
      edge.leaves("share(" + s + ",true)", x -> x.share(s, true));
      edge.leaves("share(" + s + ",false)", x -> x.share(s, false));
    }
    edge.leaves("luck(6,5,true)", x -> x.luck(6, 5, true));
    edge.leaves("luck(6,10,false)", x -> x.luck(6, 10, false));
    nothingIsLeftBehind();
  }

  /** What one call asked ahead, LETTERS that are lost above all, is gone when another one is asked. */
  private static void nothingIsLeftBehind() {
    // Both are STILL: no LETTER comes that could be lost, until one POLLS.
    StillThere x = Due.linked("B115115d0d1992");
    edge.is("ENDURED", x.end(0, 13), 5);
    edge.is("ENDURED by the other one", x.end(1, 13), 5);
    x.poll(0);
    edge.is("the answer comes behind ENDURED", x.ahead(20, 0), 2);
    x = Due.linked("B115115d0d1992");
    edge.is("luck(6,10)", x.luck(6, 10, true), 1);
    x.poll(0);
    edge.is("the answer comes behind LUCK", x.ahead(20, 0), 2);
    // The LETTERS of 19 are the last ones for long; END 1 would FALL at 56 without END 0's.
    x = Due.linked("B115115d0d196");
    edge.is("luck(1,10)", x.luck(1, 10, true), 1);
    x.pass(4);
    edge.is("the LETTER is on its WAY", x.way(0, 1), 1);
    edge.is("it is HEARD behind LUCK", x.ahead(40, 1), 2);
    x = Due.passed(20);
    edge.is("NOTICED", x.end(0, 12), 1);
    edge.is("the WAYS are OPEN ahead", x.ahead(1, 0), 2);
    edge.is("judge(2,301101)", x.judge(2, 301101), NONE);
    edge.is("the WAYS are OPEN ahead, behind JUDGED", x.ahead(1, 0), 2);
  }

  private static void aheadIsBehindTicks() {
    edge.sentence("AHEAD k: how it is behind k TICKS (0 to 99).");
    StillThere x = Histories.polling();
    for (int k = 0; k <= 99; k++) {
      StillThere y = Histories.polling();
      for (int passed = 0; passed < k; passed += Math.min(30, k - passed)) y.pass(Math.min(30, k - passed));
      edge.is("ahead(" + k + ",0)", x.ahead(k, 0), y.end(0, 5));
      edge.is("ahead(" + k + ",1)", x.ahead(k, 1), y.end(1, 5));
      edge.is("ahead(" + k + ",2)", x.ahead(k, 2), y.count(2));
      edge.is("ahead(" + k + ",3)", x.ahead(k, 3), y.count(3));
    }
  }

  private static void noticed() {
    edge.sentence("NOTICED by an END: both WAYS being CUT from now on, the least k (0 to 99) so that AHEAD k it is "
        + "DOWN; NONE.");
    edge.is("DOWN already", new StillThere().end(0, 12), 0);
    edge.is("COMING at 2, LIMIT 9", Due.passed(2).end(0, 12), 9);
    edge.is("COMING at 10, SILENCE 8", Due.passed(10).end(0, 12), 1);
    for (int mult = 1; mult <= 5; mult++) {
      StillThere x = Due.linked("B99" + mult + "99" + mult + "992");
      edge.is("SILENCE 0, LIMIT " + 9 * mult, x.end(0, 12), 9 * mult);
      edge.is("END 1 just so", x.end(1, 12), 9 * mult);
      edge.is("SILENCE 1", Due.linked("B99" + mult + "99" + mult + "993").end(1, 12), 9 * mult - 1);
    }
    StillThere x = Due.passed(20);
    edge.is("both WAYS: the LETTERS that are on them are not HEARD", x.end(0, 12), 1);
    x.turn(0);
    x.turn(1);
    edge.is("both WAYS CUT already", x.end(1, 12), 1);
    x = Due.linked("B111111d0992");
    edge.is("one that TRUSTS", x.end(0, 12), NONE);
    edge.is("it is UP AHEAD 99", x.ahead(99, 0), 2);
    // END 1 falls at once; END 0, that TRUSTS, does not hear of it.
    edge.is("END 1", x.end(1, 12), 1);
    edge.is("the WAYS are OPEN as they were", x.way(0, 0) + x.way(1, 0), 2);
  }

  private static void endured() {
    edge.sentence("ENDURED by an END: the most r (0 to 5) such that, the next r LETTERS that come to it being lost "
        + "(their WAY as it is besides), it is not DOWN AHEAD 1, 2, .. 60 at any time;");
    for (int mult = 1; mult <= 5; mult++) {
      for (int end = 0; end < 2; end++) {
        // A LETTER each 9 ticks, LIMIT 9 times MULT.
        edge.is("MULT " + mult, Due.linked("B99" + mult + "99" + mult + "9991").end(end, 13), mult - 1);
      }
    }
    // USED RX is 9 at once, letters come at each tick for a while: eight might be lost.
    for (int end = 0; end < 2; end++) {
      StillThere x = Due.passed(20);
      x.tell(end, 1, 9);
      edge.is("never more than 5", x.end(end, 13), 5);
      x = Due.linked("B111111d" + end + "992");
      edge.is("never more than 5, by one that TRUSTS", x.end(end, 13), 5);
    }
    // Their WAY: what comes to END 1 does not matter here, though END 1 would not endure one loss.
    StillThere x = Due.linked("B9919959991");
    edge.is("END 0 KNOWS MULT 5", x.end(0, 13), 4);
    edge.is("END 1 KNOWS MULT 1", x.end(1, 13), 0);
    x = Due.linked("B9959919991");
    edge.is("END 0 KNOWS MULT 1", x.end(0, 13), 0);
    edge.is("END 1 KNOWS MULT 5", x.end(1, 13), 4);
    // One loss is not endured, two are: the second one would have told DOWN.
    edge.is("the most, though a lesser one is not endured", Due.linked("B8449238d1").end(0, 13), 2);
  }

  private static void enduredForSixtyTicks() {
    edge.sentence("it is not DOWN AHEAD 1, 2, .. 60 at any time;");
    // END 1's COMING, HEARD at 11, being lost, END 0 is UP only at 20, and STILL at once, as END 1 wants DEMAND.
    // END 1 never hears UP: it falls at 65 (LIMIT 5 times 9), and END 0 hears of that at 66. Two losses: LIMIT is
    // 18 at 20.
    edge.is("it FALLS 59 ahead", Due.linked("B115112d17").end(0, 13), 0);
    edge.is("it FALLS 60 ahead", Due.linked("B115112d16").end(0, 13), 0);
    edge.is("it FALLS 61 ahead", Due.linked("B115112d15").end(0, 13), 1);
    StillThere x = Due.linked("B115112d16");
    edge.is("it is COMING", x.end(0, 5), 1);
    edge.is("no loss: it is UP AHEAD 99", x.ahead(99, 0), 2);
    // AHEAD 1: at 10 SILENCE is 8, a LETTER is on its WAY, and LIMIT is 9.
    edge.is("it FALLS 1 ahead", Due.passed(10).end(0, 13), 0);
  }

  private static void enduredNone() {
    edge.sentence("NONE: it is DOWN now, or falls with r 0.");
    edge.is("DOWN now", new StillThere().end(0, 13), NONE);
    edge.is("DOWN at 1, COMING AHEAD 1", Due.passed(1).end(1, 13), NONE);
    edge.is("COMING", Due.passed(2).end(1, 13), 0);
    for (int end = 0; end < 2; end++) {
      StillThere x = Due.linked("B9959959991");
      x.turn(1 - end);
      edge.is("its WAY is CUT: it FALLS with r 0", x.end(end, 13), NONE);
      edge.is("it hears of the other one's fall", x.end(1 - end, 13), NONE);
    }
    edge.is("r 0 is not endured, though another is", Due.linked("B1952446w1").end(1, 13), NONE);
  }

  private static void lostOnesAreSent() {
    edge.sentence("LOST ones (ENDURED, LUCK) are SENT, and are taken off the WAY unHEARD. In ENDURED \"the next r "
        + "LETTERS that come to it\" are those that are taken off the WAY to it from now on while that is "
        + "OPEN");
    // The LETTER that is on its WAY at 19 tells UP. END 1 is STILL from 20 on: no other one comes to END 0.
    StillThere x = Due.linked("B115115d0d1991");
    edge.is("the one that is on its WAY now counts", x.end(0, 13), 0);
    x.pass(1);
    edge.is("it is HEARD, and no other comes", x.end(0, 13), 5);
    // Both send each 9 ticks: what END 0 loses at 29 was SENT, and the next one comes 9 ticks later.
    x = Due.linked("B9929929991");
    edge.is("one of them is lost", x.end(0, 13), 1);
    edge.is("SENT stays as it is", x.count(2), 8);
  }

  private static void letters() {
    edge.sentence("LETTERS k: how many are SENT in the next k TICKS (0 to 99).");
    StillThere x = new StillThere();
    int[][] rows = {{0, 0}, {1, 2}, {2, 2}, {9, 2}, {10, 4}, {11, 4}, {18, 4}, {19, 6}, {20, 8}, {21, 10}, {99, 166}};
    for (int[] row : rows) edge.is("letters(" + row[0] + ")", x.letters(row[0]), row[1]);
    x.pass(20);
    edge.is("letters(0) at 20", x.letters(0), 0);
    edge.is("letters(1) at 20", x.letters(1), 2);
    edge.is("letters(99) at 20", x.letters(99), 198);
    for (int k : new int[] {-1, 100, FAR[0], FAR[1]}) edge.refused("letters(" + k + ")", OUTSIDE, y -> y.letters(k));
  }

  private static void judged(StillThere x, int n, long row, int want) {
    edge.is("judge(" + n + "," + row + ")", x.judge(n, row), want);
  }

  private static void judgedDoings() {
    edge.sentence("JUDGED: n doings (1 to 4), told as three figures each (the first one's are the highest of row)");
    StillThere x = new StillThere();
    judged(x, 1, 101, NONE);
    judged(x, 4, 101101101101L, NONE);
    judged(x, 2, 111502, NONE);
    judged(x, 2, 502111, 0);
    for (int n : new int[] {0, 5, -1, FAR[0], FAR[1]}) {
      edge.refused("judge(" + n + ",101)", OUTSIDE, y -> y.judge(n, 101));
      edge.refused("judge(" + n + ",0)", OUTSIDE, y -> y.judge(n, 0));
    }
    edge.refused("judge(5,..)", OUTSIDE, y -> y.judge(5, 101101101101101L));
  }

  private static void judgedTicks() {
    edge.sentence("(1, two figures: so many TICKS pass (1 to 30);");
    StillThere x = new StillThere();
    judged(x, 1, 100, 0);
    judged(x, 1, 101, NONE);
    judged(x, 1, 130, NONE);
    judged(x, 1, 131, 0);
    judged(x, 1, 199, 0);
    judged(x, 2, 101500, NONE);
    judged(x, 2, 102501, NONE);
    // LIMIT is 30, SILENCE 0: END 0 FALLS 30 ahead.
    x = Due.linked("B665665992w1");
    judged(x, 2, 129502, NONE);
    judged(x, 2, 129500, 1);
    judged(x, 2, 130500, NONE);
    judged(x, 2, 130502, 1);
    // What can not be is not done: nothing behind it is looked at.
    judged(x, 3, 131130500, 0);
    judged(x, 3, 130131500, 1);
  }

  private static void judgedTurned() {
    edge.sentence("2, 0, an END: DEMAND TURNED; 3, 0, a WAY: TURNED;");
    StillThere x = Due.passed(20);
    for (int kind = 200; kind <= 300; kind += 100) {
      judged(x, 1, kind, NONE);
      judged(x, 1, kind + 1, NONE);
      judged(x, 1, kind + 2, 0);
      judged(x, 1, kind + 9, 0);
      judged(x, 1, kind + 10, 0);
      judged(x, 1, kind + 11, 0);
      judged(x, 1, kind + 90, 0);
      judged(x, 1, kind + 99, 0);
    }
    // A CUT WAY to an END is noticed at once, but not by one that TRUSTS.
    judged(x, 3, 301101500, NONE);
    judged(x, 3, 300101510, NONE);
    judged(x, 3, 300101502, NONE);
    judged(x, 4, 301301101502L, NONE);
    judged(x, 4, 200301101502L, NONE);
    judged(x, 4, 201301101500L, NONE);
    x.demand(0);
    judged(x, 4, 200301101500L, NONE);
  }

  private static void judgedPolled() {
    edge.sentence("4, 0, an END: POLLED;");
    StillThere x = Due.passed(20);
    judged(x, 2, 400601, NONE);
    judged(x, 2, 401611, NONE);
    judged(x, 2, 400401, NONE);
    judged(x, 2, 400400, 1);
    judged(x, 2, 401401, 1);
    for (int doing : new int[] {402, 409, 410, 411, 490, 499}) judged(x, 1, doing, 0);
    judged(new StillThere(), 1, 400, 0);
    judged(Due.passed(2), 1, 401, 0);
    judged(Due.passed(11), 2, 400401, NONE);
    // NEXT is 0: the poll is SENT at once, and answered in three ticks.
    x = Due.linked("B9919919994");
    judged(x, 3, 400102601, NONE);
    judged(x, 3, 400103600, NONE);
    judged(x, 4, 400103400601L, NONE);
    judged(x, 4, 400102400601L, 2);
  }

  private static void judgedAsked() {
    edge.sentence("5, an END, v: its MOOD is v; 6, an END, 1 or 0: it POLLS, or not; 7, an END, v: its PACE is v (0 "
        + "to 9)): the place of the first that can not be (or is not so); NONE: none.");
    StillThere[] moods = {new StillThere(), Due.passed(2), Due.passed(20)};
    for (int mood = 0; mood < 3; mood++) {
      for (int end = 0; end < 10; end++) {
        for (int v = 0; v < 10; v++) {
          judged(moods[mood], 1, 500 + 10 * end + v, end < 2 && v == mood ? NONE : 0);
          judged(moods[mood], 1, 600 + 10 * end + v, end < 2 && v == 0 ? NONE : 0);
          judged(moods[mood], 1, 700 + 10 * end + v, end < 2 && v == (mood == 2 ? 1 : 9) ? NONE : 0);
        }
      }
    }
    StillThere x = Due.linked("B213422999");
    x.poll(1);
    for (int v = 0; v < 10; v++) {
      judged(x, 1, 600 + v, v == 0 ? NONE : 0);
      judged(x, 1, 610 + v, v == 1 ? NONE : 0);
      judged(x, 1, 700 + v, v == 2 ? NONE : 0);
      judged(x, 1, 710 + v, v == 4 ? NONE : 0);
    }
    edge.sentence("1 to 4 are done, from then on (for this call alone); 5 to 7 are asked as it is then.");
    judged(x, 4, 610502512611L, 0);
    judged(x, 4, 611502512610L, 3);
    judged(x, 4, 611502512611L, NONE);
    judged(x, 2, 400601, NONE);
    judged(x, 1, 601, 0);
    judged(x, 2, 601400, 0);
  }

  private static void judgedFigures() {
    edge.sentence("the place of the first that can not be (or is not so)");
    StillThere x = Due.passed(20);
    for (int doing : new int[] {0, 1, 9, 10, 99, 800, 801, 811, 900, 999}) {
      judged(x, 1, doing, 0);
      judged(x, 2, 101000 + doing, 1);
      judged(x, 3, 101101000 + doing, 2);
      judged(x, 4, 101101101000L + doing, 3);
    }
    judged(x, 2, 101, 0);
    judged(x, 4, 101, 0);
    judged(x, 4, 101101101, 0);
    judged(x, 4, 999999101999L, 0);
  }

  private static void seen() {
    edge.sentence("AHEAD k (0 to 99) an END was of MOOD s: never more than 6, none at first");
    StillThere x = new StillThere();
    edge.is("none at first", x.count(5), 0);
    edge.is("see(0,0,0)", x.see(0, 0, 0), 1);
    edge.is("see(99,1,2)", x.see(99, 1, 2), 2);
    edge.is("see(2,1,1)", x.see(2, 1, 1), 3);
    edge.is("see(2,0,1)", x.see(2, 0, 1), 4);
    edge.is("the same once more", x.see(2, 0, 1), 5);
    edge.is("the sixth", x.see(11, 0, 2), 6);
    edge.is("the seventh", x.see(0, 0, 0), FULL);
    edge.is("count(5)", x.count(5), 6);
    edge.is("all of it is so", x.which(), 1022);
    x.unsee();
    for (int i = 0; i < 5; i++) x.see(0, 0, 0);
    x.see(0, 0, 1);
    edge.is("the sixth one counts", x.which(), 0);
    edge.refusedIn("full", "see(0,0,0)", FULL, y -> y.see(0, 0, 0));
    edge.refusedIn("full", "see(99,1,2)", FULL, y -> y.see(99, 1, 2));
  }

  private static void seenStays() {
    edge.sentence("(another LINK leaves them; all else as it is when that is asked)");
    StillThere x = new StillThere();
    x.see(1, 0, 0);
    edge.is("DOWN AHEAD 1", x.which(), 1022);
    x.pass(20);
    edge.is("asked at 20", x.which(), 0);
    x.undo();
    edge.is("asked at 0 again", x.which(), 1022);
    Due.write(x, "B111111992");
    x.link();
    edge.is("another LINK", x.count(5), 1);
    edge.is("asked of it", x.which(), 0);
    x.turn(1);
    edge.is("WAY 1 being CUT", x.which(), 2);
    x.keep(0);
    x.unsee();
    x.again(0);
    edge.is("not kept in a slot", x.count(5), 0);
  }

  private static void which() {
    edge.sentence("WHICH: RX (bits 1 to 9) by which all that is SEEN is so.");
    edge.is("nothing SEEN", new StillThere().which(), 1022);
    StillThere x = Due.passed(20);
    x.turn(1);
    for (int rx = 1; rx <= 9; rx++) {
      // USED RX is LIMIT: END 0 is DOWN rx ahead, and was UP until then.
      x.see(rx, 0, 0);
      x.see(rx - 1, 0, 2);
      edge.is("RX " + rx + " alone", x.which(), 1 << rx);
      x.unsee();
    }
    x.see(0, 0, 0);
    edge.is("not so now", x.which(), 0);
    edge.sentence("that, RX of END 0 (and its USED RX) being an unknown one of 1 to 9 from now on");
    // The answer to a poll is on WAY 1: when it is HEARD, USED RX is as RX is. Nothing comes behind it, END 1 being STILL
    // (WAY 0 is CUT, so it does not hear that END 0 wants DEMAND no more): END 0 FALLS when SILENCE is RX.
    x = Due.linked("B135191d0992");
    x.poll(0);
    x.pass(2);
    x.demand(0);
    x.turn(0);
    for (int rx = 1; rx <= 9; rx++) {
      x.see(rx, 0, 2);
      x.see(rx + 1, 0, 0);
      edge.is("RX and USED RX " + rx, x.which(), 1 << rx);
      x.unsee();
    }
    edge.is("RX of END 0 stays", x.end(0, 1), 3);
    edge.is("USED RX of END 0 stays", x.end(0, 4), 3);
    edge.is("RX of END 1 stays", x.end(1, 1), 9);
    // WAY 0 being CUT: RX of END 1 is as it is, and its LIMIT.
    x = Due.linked("B141171992w0");
    x.see(6, 1, 2);
    x.see(7, 1, 0);
    edge.is("RX of END 1 is known", x.which(), 1022);
  }

  private static void whichBringsNoPoll() {
    edge.sentence("In SHARE, SEEN SETTINGS told otherwise bring no POLL.");
    StillThere x = Due.linked("B111111d0992");
    x.turn(1);
    x.see(99, 0, 2);
    edge.is("it TRUSTS with each RX", x.which(), 1022);
    x = Due.linked("B225225d0d19999");
    edge.is("both STILL", x.letters(60), 0);
    for (int setting = 0; setting < 4; setting++) edge.is("no LETTER by SHARE " + setting, x.share(setting, true), 0);
    // One that POLLS already goes on with it.
    x = Due.linked("B111111d0992");
    x.poll(0);
    x.turn(1);
    x.see(8, 0, 0);
    edge.is("it POLLS: LIMIT is RX", x.which(), 510);
  }

  private static void setsAreBits() {
    edge.sentence("Sets are told as bits.");
    StillThere x = Due.passed(20);
    x.turn(1);
    x.see(9, 0, 0);
    x.see(8, 0, 2);
    edge.is("RX 9 alone", x.which(), 512);
    x.unsee();
    x.see(1, 0, 0);
    edge.is("RX 1 alone", x.which(), 2);
    x.see(1, 0, 2);
    edge.is("none", x.which(), 0);
    x.unsee();
    edge.is("all", x.which(), 2 + 4 + 8 + 16 + 32 + 64 + 128 + 256 + 512);
  }

  private static void end() {
    edge.sentence("SILENCE (8), NEXT (9), PACE (10), LIMIT (11), NOTICED (12; NONE), ENDURED (13; NONE). UNKNOWN; "
        + "OUTSIDE.");
    for (int what : new int[] {-1, 14, FAR[0], FAR[1]}) {
      edge.refused("end(0," + what + ")", OUTSIDE, x -> x.end(0, what));
      edge.refused("end(1," + what + ")", OUTSIDE, x -> x.end(1, what));
    }
    // END 0 is STILL since 20, END 1 sends at 19 and 28, and wants DEMAND.
    int[][] answers = {{8, 9, 3, 8, 9, 2, 0, 0, 2, 0, 9, 36, 34, 3}, {7, 9, 4, 7, 9, 2, 0, 1, 11, 6, 9, 27, NONE, 5}};
    StillThere x = Due.linked("B893794d19994");
    for (int e = 0; e < 2; e++) {
      for (int what = 0; what < 14; what++) edge.is("end(" + e + "," + what + ")", x.end(e, what), answers[e][what]);
    }
    x.poll(1);
    edge.is("end(1,6) of one that POLLS", x.end(1, 6), 1);
    for (int what = 0; what < 14; what++) {
      int w = what;
      edge.leaves("end(0," + w + ")", y -> y.end(0, w));
    }
  }

  private static void known() {
    edge.sentence("What an END KNOWS: MOOD (what = 0), TX (1), RX (2), MULT (3), 1 if DEMAND, 0 (4). UNKNOWN; "
        + "OUTSIDE.");
    for (int what : new int[] {-1, 5, FAR[0], FAR[1]}) {
      edge.refused("known(0," + what + ")", OUTSIDE, x -> x.known(0, what));
      edge.refused("known(1," + what + ")", OUTSIDE, x -> x.known(1, what));
    }
    int[][] knows = {{1, 7, 8, 4, 1}, {1, 9, 6, 3, 0}};
    StillThere x = Due.linked("B963784d192");
    for (int e = 0; e < 2; e++) {
      for (int what = 0; what < 5; what++) edge.is("known(" + e + "," + what + ")", x.known(e, what), knows[e][what]);
    }
    edge.leaves("known(0,4)", y -> y.known(0, 4));
  }

  private static void way() {
    edge.sentence("Of a WAY 1 if it is OPEN, 0 (what = 0), 1 if a LETTER is on it, 0 (1). UNKNOWN; OUTSIDE.");
    for (int what : new int[] {-1, 2, FAR[0], FAR[1]}) {
      edge.refused("way(0," + what + ")", OUTSIDE, x -> x.way(0, what));
      edge.refused("way(1," + what + ")", OUTSIDE, x -> x.way(1, what));
    }
    for (int way = 0; way < 2; way++) {
      StillThere x = new StillThere();
      for (int turns = 0; turns < 4; turns++) {
        edge.is("way(" + way + ",0)", x.way(way, 0), 1 - turns % 2);
        edge.is("way(" + (1 - way) + ",0)", x.way(1 - way, 0), 1);
        x.turn(way);
      }
      for (int t = 1; t <= 11; t++) {
        x.pass(1);
        edge.is("way(" + way + ",1) at " + t, x.way(way, 1), t == 1 || t == 10 ? 1 : 0);
      }
    }
    edge.leaves("way(0,1)", y -> y.way(0, 1));
  }

  private static void ahead() {
    edge.sentence("AHEAD k MOOD of END 0 (what = 0), of END 1 (1), SENT (2), UPTIME (3). OUTSIDE: k, what.");
    for (int k : new int[] {-1, 100, FAR[0], FAR[1]}) {
      edge.refused("ahead(" + k + ",0)", OUTSIDE, x -> x.ahead(k, 0));
      edge.refused("ahead(" + k + ",3)", OUTSIDE, x -> x.ahead(k, 3));
    }
    for (int what : new int[] {-1, 4, FAR[0], FAR[1]}) {
      edge.refused("ahead(0," + what + ")", OUTSIDE, x -> x.ahead(0, what));
      edge.refused("ahead(99," + what + ")", OUTSIDE, x -> x.ahead(99, what));
    }
    StillThere x = new StillThere();
    edge.is("ahead(99,2)", x.ahead(99, 2), 166);
    edge.is("ahead(99,3)", x.ahead(99, 3), 89);
    x = Due.passed(20);
    x.turn(0);
    edge.is("ahead(0,0)", x.ahead(0, 0), 2);
    edge.is("ahead(0,1)", x.ahead(0, 1), 2);
    edge.is("ahead(0,2)", x.ahead(0, 2), 8);
    edge.is("ahead(0,3)", x.ahead(0, 3), 10);
    edge.is("ahead(1,0)", x.ahead(1, 0), 2);
    edge.is("ahead(1,1)", x.ahead(1, 1), 0);
  }

  private static void judge() {
    edge.sentence("JUDGED; NONE. OUTSIDE: n, row (0 or more, 3 n figures at most).");
    long[] most = {999, 999999, 999999999, 999999999999L};
    for (int n = 1; n <= 4; n++) {
      int m = n;
      long row = most[n - 1];
      judged(Due.passed(20), n, row, 0);
      judged(Due.passed(20), n, 0, 0);
      edge.refused("judge(" + n + "," + (row + 1) + ")", OUTSIDE, x -> x.judge(m, row + 1));
      edge.refused("judge(" + n + ",-1)", OUTSIDE, x -> x.judge(m, -1));
      edge.refused("judge(" + n + ",MIN)", OUTSIDE, x -> x.judge(m, Long.MIN_VALUE));
      edge.refused("judge(" + n + ",MAX)", OUTSIDE, x -> x.judge(m, Long.MAX_VALUE));
      edge.refused("judge(" + n + ",-101)", OUTSIDE, x -> x.judge(m, -101));
    }
    edge.refused("judge(1,101 and 2 to the 32)", OUTSIDE, x -> x.judge(1, (1L << 32) + 101));
  }

  private static void see() {
    edge.sentence("SEEN: how many there are. UNKNOWN: end; OUTSIDE: k, s (0 to 2); FULL: 6.");
    for (int k : new int[] {-1, 100, FAR[0], FAR[1]}) edge.refused("see(" + k + ",0,0)", OUTSIDE, x -> x.see(k, 0, 0));
    for (int s : new int[] {-1, 3, FAR[0], FAR[1]}) edge.refused("see(0,1," + s + ")", OUTSIDE, x -> x.see(0, 1, s));
    for (int k : new int[] {0, 99}) {
      for (int s = 0; s < 3; s++) {
        StillThere x = Due.passed(20);
        edge.is("see(" + k + ",1," + s + ")", x.see(k, 1, s), 1);
        edge.is("which()", x.which(), s == 2 ? 1022 : 0);
        edge.is("no ACT", x.count(4), 1);
      }
    }
  }

  private static void unsee() {
    edge.sentence("Nothing is SEEN: how much there was.");
    StillThere x = new StillThere();
    edge.is("none", x.unsee(), 0);
    x.see(0, 0, 2);
    edge.is("one", x.unsee(), 1);
    edge.is("none again", x.unsee(), 0);
    x = Histories.full();
    edge.is("six", x.unsee(), 6);
    edge.is("count(5)", x.count(5), 0);
    edge.is("which()", x.which(), 1022);
    edge.is("one more behind it", x.see(0, 0, 2), 1);
  }
}
