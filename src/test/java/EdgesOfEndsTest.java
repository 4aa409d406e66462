/**
 * The sentences on refusals, ends, ways, letters and ticks (Terms, Terms 1 and 4) that name an edge,
 * in the document's order. The stories are told by hand; LinkTest tells the one that is behind most
 * of them: letters at 1, 10 and 19, COMING at 2, UP at 11, UP known at 20, then letters at their PACE.
 */
public final class EdgesOfEndsTest {
  private static final int UNKNOWN = StillThere.UNKNOWN, OUTSIDE = StillThere.OUTSIDE, NONE = StillThere.NONE;
  private static final Edge edge = new Edge("EdgesOfEndsTest");

  public static void main(String[] args) {
    lastCall();
    refusalsInTheirRow();
    numbersOfRefusals();
    placesFromZero();
    endsAreTwo();
    settings();
    atFirst();
    waysLead();
    bothUp();
    pace();
    limit();
    still();
    trusts();
    letterTells();
    clock();
    letterIsTakenOff();
    moodsByWhatIsTold();
    pollIsOwed();
    answerEndsPoll();
    silence();
    fallsAtTheLimit();
    nextNotBelowZero();
    sends();
    uptime();
    falls();
    toldWhenUp();
    toldWhenNotUp();
    toldMult();
    turned();
    polled();
    heardInTheNextTick();
    oneLetterOnAWay();
    demandAsLastHeard();
    fallInHearing();
    edge.end();
  }

  private static void lastCall() {
    edge.sentence("An object is used for at most 512 calls after it has been made");
    StillThere[] x = {new StillThere(), new StillThere(), new StillThere(), new StillThere()};
    for (StillThere each : x) {
      for (int call = 1; call <= 511; call++) each.pass(30);
    }
    edge.is("pass(30) as the 512th", x[0].pass(30), 512 * 30);
    edge.is("SENT as the 512th", x[1].count(2), 8 + 2 * (511 * 30 - 20));
    edge.is("UPTIME as the 512th", x[2].count(3), 511 * 30 - 10);
    edge.is("undo() as the 512th", x[3].undo(), 13);
  }

  private static void refusalsInTheirRow() {
    edge.sentence("of several the first that a call names (in just that row)");
    edge.refused("end(2,14)", UNKNOWN, x -> x.end(2, 14));
    edge.refused("known(-1,5)", UNKNOWN, x -> x.known(-1, 5));
    edge.refused("way(2,-1)", UNKNOWN, x -> x.way(2, -1));
    edge.refused("tell(2,3,0)", UNKNOWN, x -> x.tell(2, 3, 0));
    edge.refused("tell(-1,0,10)", UNKNOWN, x -> x.tell(-1, 0, 10));
    edge.refused("see(100,2,0)", UNKNOWN, x -> x.see(100, 2, 0));
    edge.refused("see(0,-1,3)", UNKNOWN, x -> x.see(0, -1, 3));
    edge.refusedIn("full", "see(100,0,0), OUTSIDE ahead of FULL", OUTSIDE, x -> x.see(100, 0, 0));
    edge.refusedIn("full", "see(0,0,3), OUTSIDE ahead of FULL", OUTSIDE, x -> x.see(0, 0, 3));
    edge.refusedIn("full", "write(256), OUTSIDE ahead of FULL", OUTSIDE, x -> x.write(256));
    edge.refusedIn("new", "poll(2), UNKNOWN ahead of STATE", UNKNOWN, x -> x.poll(2));
    edge.refusedIn("new", "again(2), UNKNOWN ahead of STATE", UNKNOWN, x -> x.again(2));
  }

  private static void numbersOfRefusals() {
    edge.sentence("UNKNOWN = -1, OUTSIDE = -2, STATE = -3, FULL = -4, NONE = -9");
    StillThere x = new StillThere();
    edge.is("UNKNOWN", x.demand(2), -1);
    edge.is("OUTSIDE", x.pass(0), -2);
    edge.is("STATE", x.undo(), -3);
    edge.is("NONE", x.end(0, 13), -9);
    for (int i = 0; i < 70; i++) x.write('1');
    edge.is("FULL", x.write('1'), -4);
  }

  private static void placesFromZero() {
    edge.sentence("Places of letters of THE TEXT and of doings (FAULT, JUDGED) are counted from 0 on.");
    edge.is("the first letter", Due.write(new StillThere(), "A").fault(), 0);
    edge.is("the second letter", Due.write(new StillThere(), "BA").fault(), 1);
    edge.is("the first doing", new StillThere().judge(1, 800), 0);
    edge.is("the last of four", new StillThere().judge(4, 101101101800L), 3);
  }

  private static void endsAreTwo() {
    edge.sentence("ENDS are 0 and 1.");
    for (int end : new int[] {-1, 2, Integer.MIN_VALUE, Integer.MAX_VALUE}) {
      edge.refused("end(" + end + ",0)", UNKNOWN, x -> x.end(end, 0));
      edge.refused("end(" + end + ",12)", UNKNOWN, x -> x.end(end, 12));
      edge.refused("end(" + end + ",13)", UNKNOWN, x -> x.end(end, 13));
      edge.refused("known(" + end + ",0)", UNKNOWN, x -> x.known(end, 0));
      edge.refused("tell(" + end + ",0,1)", UNKNOWN, x -> x.tell(end, 0, 1));
      edge.refused("demand(" + end + ")", UNKNOWN, x -> x.demand(end));
      edge.refused("poll(" + end + ")", UNKNOWN, x -> x.poll(end));
      edge.refused("see(0," + end + ",0)", UNKNOWN, x -> x.see(0, end, 0));
    }
    StillThere x = Due.linked("B235914");
    edge.is("TX of END 0", x.end(0, 0), 2);
    edge.is("TX of END 1", x.end(1, 0), 9);
  }

  private static void settings() {
    edge.sentence("Each has SETTINGS: TX, RX (1 to 9), MULT (1 to 5)");
    int[] most = {9, 9, 5};
    for (int end = 0; end < 2; end++) {
      StillThere x = new StillThere();
      for (int what = 0; what < 3; what++) {
        for (int v : new int[] {most[what], 1}) {
          int was = x.end(end, what);
          edge.is("tell(" + end + "," + what + "," + v + ")", x.tell(end, what, v), was);
          edge.is("it is so", x.end(end, what), v);
        }
        for (int v : new int[] {0, most[what] + 1, -1, Integer.MIN_VALUE, Integer.MAX_VALUE}) {
          int e = end;
          int w = what;
          edge.refused("tell(" + e + "," + w + "," + v + ")", OUTSIDE, y -> y.tell(e, w, v));
        }
      }
    }
  }

  private static void atFirst() {
    edge.sentence("At first SETTINGS are 1, USED ones as SETTINGS are, it is DOWN, SILENCE and NEXT are 0, it KNOWS: "
        + "DOWN, 1, 1, 1, no DEMAND.");
    int[] ends = {1, 1, 1, 1, 1, 0, 0, 0, 0, 0};
    int[] knows = {0, 1, 1, 1, 0};
    StillThere x = new StillThere();
    for (int e = 0; e < 2; e++) {
      for (int what = 0; what < ends.length; what++) edge.is("end(" + e + "," + what + ")", x.end(e, what), ends[what]);
      for (int what = 0; what < knows.length; what++) edge.is("known(" + e + "," + what + ")", x.known(e, what), knows[what]);
    }
    edge.sentence("THE CLOCK, SENT (how many LETTERS were), UPTIME are 0 at first.");
    for (int what = 1; what < 4; what++) edge.is("count(" + what + ")", x.count(what), 0);
    edge.is("SENT behind a tick", x.ahead(1, 2), 2);
  }

  private static void waysLead() {
    edge.sentence("WAY 0 leads from END 0 to END 1, WAY 1 back; each is OPEN (at first) or CUT, and has a LETTER on "
        + "it, or none.");
    for (int way = 0; way < 2; way++) {
      StillThere x = new StillThere();
      edge.is("OPEN at first", x.way(way, 0), 1);
      edge.is("no LETTER at first", x.way(way, 1), 0);
      x.turn(way);
      edge.is("CUT", x.way(way, 0), 0);
      edge.is("the other one is OPEN", x.way(1 - way, 0), 1);
      x.pass(1);
      edge.is("a LETTER on a CUT one", x.way(way, 1), 1);
      x.pass(1);
      edge.is("none", x.way(way, 1), 0);
      edge.is("the END behind it hears nothing", x.end(1 - way, 8), 2);
      edge.is("the END ahead of it hears", x.end(way, 8), 0);
    }
    for (int way : new int[] {-1, 2, Integer.MIN_VALUE, Integer.MAX_VALUE}) {
      edge.refused("way(" + way + ",0)", UNKNOWN, x -> x.way(way, 0));
      edge.refused("way(" + way + ",1)", UNKNOWN, x -> x.way(way, 1));
      edge.refused("turn(" + way + ")", UNKNOWN, x -> x.turn(way));
    }
  }

  /** END 1 fell at 21, WAY 0 being CUT for a tick, and heard at 22 that END 0 was UP at 21. */
  private static StillThere downButKnowsUp() {
    StillThere x = Due.passed(20);
    x.turn(0);
    x.pass(1);
    x.turn(0);
    x.pass(1);
    return x;
  }

  private static void bothUp() {
    edge.sentence("BOTH UP of an END: its MOOD is UP, and the MOOD that it KNOWS.");
    StillThere x = Due.passed(19);
    edge.is("UP", x.end(0, 5), 2);
    edge.is("KNOWS COMING", x.known(0, 0), 1);
    edge.is("LIMIT is not of BOTH UP", x.end(0, 11), 9);
    x.pass(1);
    edge.is("KNOWS UP", x.known(0, 0), 2);
    edge.is("LIMIT is of BOTH UP", x.end(0, 11), 1);
    x = downButKnowsUp();
    edge.is("DOWN", x.end(1, 5), 0);
    edge.is("but KNOWS UP", x.known(1, 0), 2);
    edge.is("LIMIT of it", x.end(1, 11), 9);
  }

  private static void pace() {
    edge.sentence("PACE of an END: 9, if its MOOD is not UP, else the greater of USED TX and the RX that it KNOWS.");
    int[][] rows = {{1, 1, 1}, {4, 5, 5}, {5, 4, 5}, {4, 4, 4}, {9, 1, 9}, {1, 9, 9}, {8, 1, 8}, {1, 8, 8}};
    for (int[] row : rows) {
      StillThere x = Due.linked("B" + row[0] + "111" + row[1] + "1");
      edge.is("DOWN", x.end(0, 10), 9);
      x.pass(10);
      edge.is("COMING", x.end(0, 10), 9);
      x.pass(1);
      edge.is("UP, TX " + row[0] + ", RX " + row[1], x.end(0, 10), row[2]);
      x.pass(9);
      edge.is("BOTH UP", x.end(0, 10), row[2]);
    }
  }

  private static void limit() {
    edge.sentence("LIMIT of an END: the MULT that it KNOWS, times the greatest of USED RX, the TX that it KNOWS, and "
        + "9 (that only if it is not BOTH UP).");
    int[][] rows = {{1, 1, 1, 1}, {4, 5, 1, 5}, {5, 4, 1, 5}, {4, 4, 5, 20}, {9, 9, 5, 45}, {1, 8, 2, 16}, {8, 1, 2, 16}};
    for (int[] row : rows) {
      StillThere x = Due.linked("B1" + row[0] + "1" + row[1] + "1" + row[2]);
      edge.is("DOWN, KNOWS nothing", x.end(0, 11), 9);
      x.pass(10);
      edge.is("COMING", x.end(0, 11), 9 * row[2]);
      x.pass(9);
      edge.is("UP, KNOWS COMING", x.end(0, 11), 9 * row[2]);
      x.pass(1);
      edge.is("BOTH UP, RX " + row[0] + ", TX " + row[1] + ", MULT " + row[2], x.end(0, 11), row[3]);
    }
    StillThere x = Due.passed(20);
    x.tell(0, 1, 9);
    x.tell(0, 1, 2);
    edge.is("it is the USED RX", x.end(0, 11), 9);
  }

  private static void still() {
    edge.sentence("It is STILL, if it KNOWS DEMAND, is BOTH UP and does not POLL.");
    StillThere x = Due.linked("B111111d0d1");
    edge.is("KNOWS DEMAND, COMING: sends at 10", x.ahead(10, 2), 4);
    edge.is("KNOWS DEMAND, UP, KNOWS COMING: sends at 19", x.ahead(19, 2), 6);
    edge.is("BOTH UP: STILL at 20", x.ahead(20, 2), 6);
    edge.is("and at 99", x.ahead(99, 2), 6);
    // END 0 KNOWS no DEMAND, and sends at each tick.
    x = Due.linked("B111111d0");
    edge.is("one of them at 20", x.ahead(20, 2), 7);
    edge.is("one of them at 99", x.ahead(99, 2), 86);
    // Polls at 26 and 27, answers at 27 and 28.
    x = Due.linked("B115115d0d1997");
    edge.is("STILL", x.letters(99), 0);
    x.poll(0);
    edge.is("it POLLS", x.letters(1), 1);
    edge.is("it POLLS until the answer comes", x.letters(2), 3);
    edge.is("the last answer", x.letters(3), 4);
    edge.is("STILL again", x.letters(99), 4);
  }

  private static void trusts() {
    edge.sentence("It TRUSTS, if it wants DEMAND, is BOTH UP and does not POLL.");
    StillThere x = Due.linked("B111111d0992");
    edge.is("it TRUSTS", x.end(0, 12), NONE);
    edge.is("it does not want DEMAND", x.end(1, 12), 1);
    x.poll(0);
    edge.is("it POLLS", x.end(0, 12), 1);
    edge.is("it is DOWN", Due.linked("B111111d0").end(0, 12), 0);
    edge.is("it is COMING", Due.linked("B111111d02").end(0, 12), 9);
    edge.is("it is UP, but KNOWS COMING", Due.linked("B111111d092").end(0, 12), 9);
  }

  private static void letterTells() {
    edge.sentence("A LETTER tells MOOD, TX, RX, MULT, DEMAND as they are, whether its END POLLS, whether it is an "
        + "answer.");
    StillThere x = Due.passed(20);
    x.tell(0, 0, 7);
    x.tell(0, 1, 6);
    x.tell(0, 2, 3);
    x.demand(0);
    int[] before = {2, 1, 1, 1, 0};
    int[] then = {2, 7, 6, 3, 1};
    x.pass(1);
    for (int what = 0; what < 5; what++) edge.is("as it was when SENT, " + what, x.known(1, what), before[what]);
    edge.is("USED TX waits", x.end(0, 3), 1);
    x.pass(1);
    for (int what = 0; what < 5; what++) edge.is("SETTINGS, not USED ones, " + what, x.known(1, what), then[what]);
  }

  private static void clock() {
    edge.sentence("A TICK: THE CLOCK is 1 more; then");
    StillThere x = new StillThere();
    edge.is("pass(1)", x.pass(1), 1);
    edge.is("pass(1) again", x.pass(1), 2);
    edge.is("count(1)", x.count(1), 2);
  }

  private static void letterIsTakenOff() {
    edge.sentence("if a LETTER is on the WAY to it, that is on it no more; if that WAY is OPEN, it is HEARD: SILENCE "
        + "is 0; what it KNOWS is as the LETTER tells");
    for (int way = 0; way < 2; way++) {
      int to = 1 - way;
      StillThere x = Due.linked("B235325d0d11");
      x.turn(way);
      x.pass(1);
      edge.is("CUT: it is on it no more", x.way(way, 1), 0);
      edge.is("CUT: not HEARD", x.end(to, 8), 2);
      edge.is("CUT: nothing is known", x.known(to, 3), 1);
      edge.is("CUT: no DEMAND is known", x.known(to, 4), 0);
      edge.is("CUT: the END is DOWN", x.end(to, 5), 0);
      x = Due.linked("B235325d0d11");
      x.pass(1);
      edge.is("OPEN: it is on it no more", x.way(way, 1), 0);
      edge.is("OPEN: HEARD", x.end(to, 8), 0);
      edge.is("OPEN: MULT is known", x.known(to, 3), 5);
      edge.is("OPEN: DEMAND is known", x.known(to, 4), 1);
    }
  }

  private static void moodsByWhatIsTold() {
    edge.sentence("DOWN: a COMING or DOWN END: it is COMING, an UP one: it FALLS;");
    edge.is("a DOWN END hears DOWN", Due.passed(2).end(0, 5), 1);
    // END 1 hears nothing, and tells DOWN at 1 and 10.
    StillThere x = Due.linked("B111111w091");
    edge.is("COMING at 10", x.end(0, 5), 1);
    edge.is("SILENCE at 10", x.end(0, 8), 8);
    x.pass(1);
    edge.is("a COMING END hears DOWN", x.end(0, 5), 1);
    edge.is("SILENCE at 11", x.end(0, 8), 0);
    x = Due.linked("B115115992");
    x.tell(1, 2, 1);
    x.turn(0);
    x.pass(5);
    edge.is("END 1 fell at 25", x.end(1, 5), 0);
    edge.is("END 0 is UP at 25", x.end(0, 5), 2);
    x.pass(1);
    edge.is("an UP END hears DOWN", x.end(0, 5), 0);

    edge.sentence("COMING: a DOWN or COMING END is UP then, an UP one stays; UP: a COMING one is UP then, others "
        + "stay.");
    edge.is("a COMING END hears COMING", Due.passed(11).end(0, 5), 2);
    // WAY 0 is CUT until 3: END 0 is COMING at 2, END 1 hears of it at 11.
    x = Due.linked("B111111w03w07");
    edge.is("END 1 is DOWN at 10", x.end(1, 5), 0);
    x.pass(1);
    edge.is("a DOWN END hears COMING", x.end(1, 5), 2);
    edge.is("END 0 heard DOWN", x.end(0, 5), 1);
    x.pass(9);
    edge.is("an UP END hears COMING", x.end(1, 5), 2);
    edge.is("and KNOWS it", x.known(1, 0), 1);
    edge.is("a COMING END hears UP", x.end(0, 5), 2);
    edge.is("and KNOWS it, too", x.known(0, 0), 2);
    edge.is("an UP END hears UP", Due.passed(20).end(1, 5), 2);
    x = downButKnowsUp();
    edge.is("a DOWN END hears UP", x.end(1, 5), 0);
    edge.is("and has HEARD it", x.end(1, 8), 0);
  }

  /** At 31 NEXT of both is 6: letters were sent at 28, and come next at 37. */
  private static StillThere slow() {
    return Due.linked("B9919919994");
  }

  private static void pollIsOwed() {
    edge.sentence("If the LETTER POLLS, it OWES");
    StillThere x = slow();
    edge.is("no POLL: letters until 36", x.letters(5), 0);
    edge.is("no POLL: letters at 37", x.letters(6), 2);
    x.poll(0);
    // The poll at 32, the answer at 33, then 9 ticks behind each.
    int[][] rows = {{1, 1}, {2, 2}, {3, 2}, {9, 2}, {10, 3}, {11, 4}, {18, 4}, {19, 5}};
    for (int[] row : rows) edge.is("POLL: letters(" + row[0] + ")", x.letters(row[0]), row[1]);
    x.pass(1);
    edge.is("the poll is on WAY 0", x.way(0, 1), 1);
    edge.is("nothing on WAY 1", x.way(1, 1), 0);
    x.pass(1);
    edge.is("the answer is on WAY 1", x.way(1, 1), 1);
    edge.is("nothing on WAY 0", x.way(0, 1), 0);
  }

  private static void answerEndsPoll() {
    edge.sentence("if it is an answer, and it POLLS itself: it does not any more, USED ones are as SETTINGS are.");
    // END 0 sends at 19, 22: the poll is HEARD and answered at 23, the answer HEARD at 24.
    StillThere x = Due.linked("B351115992");
    x.tell(0, 0, 9);
    x.tell(0, 1, 2);
    int[] waiting = {9, 2, 1, 3, 5, 2, 1};
    int[] answered = {9, 2, 1, 9, 2, 2, 0};
    x.pass(3);
    for (int what = 0; what < 7; what++) edge.is("end(0," + what + ") at 23", x.end(0, what), waiting[what]);
    edge.is("the answer on its WAY is one when asked ahead, too", x.judge(3, 101600709), NONE);
    x.pass(1);
    for (int what = 0; what < 7; what++) edge.is("end(0," + what + ") at 24", x.end(0, what), answered[what]);
    // A letter that is no answer does not end a poll: END 1 sends at each tick, its answer comes at 23.
    x = Due.passed(20);
    x.poll(0);
    x.pass(2);
    edge.is("it HEARD a letter at 22", x.end(0, 8), 0);
    edge.is("and POLLS", x.end(0, 6), 1);
    x.pass(1);
    edge.is("it does not at 23", x.end(0, 6), 0);
    // Both poll at once: each letter polls, and from the second one on it is an answer, too.
    x = Due.passed(20);
    x.poll(0);
    x.poll(1);
    x.pass(2);
    edge.is("both POLL at 22", x.end(0, 6) + x.end(1, 6), 2);
    x.pass(1);
    edge.is("none does at 23", x.end(0, 6) + x.end(1, 6), 0);
  }

  private static void silence() {
    edge.sentence("If it HEARD nothing, SILENCE is 1 more.");
    StillThere x = new StillThere();
    int[] silence = {1, 0, 1, 2, 3, 4, 5, 6, 7, 8, 0, 1};
    for (int i = 0; i < silence.length; i++) {
      x.pass(1);
      edge.is("SILENCE at " + (i + 1), x.end(0, 8), silence[i]);
      edge.is("SILENCE of END 1 at " + (i + 1), x.end(1, 8), silence[i]);
    }
  }

  private static void fallsAtTheLimit() {
    edge.sentence("if it is not DOWN, does not TRUST, and SILENCE is LIMIT or more, it FALLS, and KNOWS the other "
        + "one as DOWN.");
    for (int mult = 1; mult <= 5; mult++) {
      StillThere x = Due.linked("B21" + mult + "31" + mult + "d1992");
      x.turn(0);
      x.turn(1);
      x.pass(3 * mult - 1);
      edge.is("SILENCE is 1 less than LIMIT", x.end(0, 8) - x.end(0, 11), -1);
      edge.is("it is UP", x.end(0, 5), 2);
      edge.is("it KNOWS UP", x.known(0, 0), 2);
      x.pass(1);
      edge.is("SILENCE is LIMIT", x.end(0, 8), 3 * mult);
      edge.is("it is DOWN", x.end(0, 5), 0);
      int[] knows = {0, 3, 1, mult, 1};
      for (int what = 0; what < 5; what++) edge.is("known(0," + what + ")", x.known(0, what), knows[what]);
      edge.is("one that TRUSTS is UP", x.end(1, 5), 2);
    }
    // A COMING one, and an UP one that is not BOTH UP, count to 9.
    edge.is("COMING at 10", Due.linked("B1111112w18").end(0, 5), 1);
    edge.is("COMING, SILENCE is LIMIT at 11", Due.linked("B1111112w19").end(0, 5), 0);
    edge.is("UP at 19", Due.linked("B11111192w18").end(0, 5), 2);
    edge.is("UP, SILENCE is LIMIT at 20", Due.linked("B11111192w19").end(0, 5), 0);
    // More than LIMIT: one that wants DEMAND no more.
    StillThere x = Due.linked("B111111d0992");
    x.pass(7);
    edge.is("SILENCE is more than LIMIT", x.end(0, 8), 7);
    edge.is("but it TRUSTS", x.end(0, 5), 2);
    x.demand(0);
    x.pass(1);
    edge.is("it does not TRUST", x.end(0, 5), 0);
    // One that is DOWN does not FALL: what it KNOWS stays.
    x = downButKnowsUp();
    x.turn(0);
    x.pass(30);
    edge.is("SILENCE of a DOWN END", x.end(1, 8), 30);
    edge.is("it KNOWS UP still", x.known(1, 0), 2);
  }

  private static void nextNotBelowZero() {
    edge.sentence("NEXT is 1 less, but not less than 0.");
    StillThere x = new StillThere();
    int[] next = {9, 8, 7, 6, 5, 4, 3, 2, 1, 9, 8};
    for (int i = 0; i < next.length; i++) {
      x.pass(1);
      edge.is("NEXT at " + (i + 1), x.end(1, 9), next[i]);
    }
    x = Due.linked("B221221d0d1992");
    edge.is("NEXT of a STILL END", x.end(0, 9), 1);
    x.pass(1);
    edge.is("NEXT a tick later", x.end(0, 9), 0);
    x.pass(1);
    edge.is("NEXT is not less than 0", x.end(0, 9), 0);
    x.pass(30);
    edge.is("and stays so", x.end(0, 9), 0);
  }

  private static void sends() {
    edge.sentence("If it OWES, or NEXT is 0 and it is not STILL, it SENDS: a LETTER is on the WAY from it (an "
        + "answer, if it OWES), it OWES no more, NEXT is PACE, SENT is 1 more.");
    StillThere x = new StillThere();
    edge.is("SENT at 9", x.ahead(9, 2), 2);
    edge.is("NEXT is 0 at 10", x.ahead(10, 2), 4);
    x.pass(10);
    edge.is("NEXT is PACE", x.end(0, 9), 9);
    edge.is("a LETTER is on WAY 0", x.way(0, 1), 1);
    edge.is("a LETTER is on WAY 1", x.way(1, 1), 1);
    x = slow();
    x.poll(0);
    x.pass(2);
    edge.is("it OWES, NEXT was not 0: SENT", x.count(2), 10);
    edge.is("NEXT is PACE anew", x.end(1, 9), 9);
    edge.is("it OWES no more", x.letters(7), 0);
    // A STILL END answers, and does not send else.
    x = Due.linked("B115115d0d1997");
    x.poll(0);
    x.pass(2);
    edge.is("a STILL END that OWES", x.way(1, 1), 1);
    x.pass(2);
    edge.is("a STILL END that does not", x.way(1, 1), 0);
    edge.is("though NEXT is 0", x.end(1, 9), 0);
  }

  private static void uptime() {
    edge.sentence("UPTIME is 1 more, if both ENDS are UP then.");
    edge.is("both COMING", Due.passed(10).count(3), 0);
    edge.is("both UP then", Due.passed(11).count(3), 1);
    StillThere x = Due.linked("B111111w03w08");
    edge.is("END 1 alone is UP at 11", x.end(1, 5) - x.end(0, 5), 1);
    edge.is("UPTIME at 11", x.count(3), 0);
    edge.is("UPTIME at 19", x.ahead(8, 3), 0);
    edge.is("both UP at 20", x.ahead(9, 3), 1);
    x = Due.linked("B111111w13w18");
    edge.is("END 0 alone is UP at 11", x.end(0, 5) - x.end(1, 5), 1);
    edge.is("UPTIME at 11, END 0 alone", x.count(3), 0);
    x = Due.passed(20);
    x.turn(0);
    edge.is("END 1 FALLS in the tick", x.ahead(1, 3), 10);
    x = Due.passed(20);
    x.turn(1);
    edge.is("END 0 FALLS in the tick", x.ahead(1, 3), 10);
  }

  private static void falls() {
    edge.sentence("FALLS: its MOOD is DOWN, it does not POLL any more, USED ones are as SETTINGS are.");
    for (int way = 0; way < 2; way++) {
      // By silence (LIMIT is 9) if the WAY to END 0 is CUT, by a LETTER that tells DOWN at 22 if the other one is.
      StillThere x = Due.linked("B121111992");
      x.tell(0, 0, 7);
      x.tell(0, 1, 9);
      x.tell(0, 1, 1);
      int[] before = {7, 1, 1, 1, 9, 2, 1};
      int[] then = {7, 1, 1, 7, 1, 0, 0};
      for (int what = 0; what < 7; what++) edge.is("end(0," + what + ") ahead of it", x.end(0, what), before[what]);
      x.turn(way);
      x.pass(way == 1 ? 9 : 2);
      for (int what = 0; what < 7; what++) edge.is("end(0," + what + ") then, WAY " + way, x.end(0, what), then[what]);
    }
  }

  private static void toldWhenUp() {
    edge.sentence("TX, RX: if it is UP, it POLLS then, USED TX is the lesser of what was USED and what is told, USED "
        + "RX the greater likewise;");
    for (int what = 0; what < 2; what++) {
      for (int v = 1; v <= 9; v++) {
        StillThere x = Due.linked("B551551992");
        edge.is("it does not POLL", x.end(1, 6), 0);
        edge.is("tell(1," + what + "," + v + ")", x.tell(1, what, v), 5);
        edge.is("it POLLS", x.end(1, 6), 1);
        edge.is("what is told", x.end(1, what), v);
        edge.is("the other one", x.end(1, 1 - what), 5);
        edge.is("USED TX", x.end(1, 3), what == 0 ? Math.min(5, v) : 5);
        edge.is("USED RX", x.end(1, 4), what == 1 ? Math.max(5, v) : 5);
        edge.is("NEXT stays", x.end(1, 9), 4);
      }
    }
    StillThere x = Due.passed(11);
    edge.is("UP, though it KNOWS COMING", x.tell(0, 0, 9), 1);
    edge.is("it POLLS", x.end(0, 6), 1);
    edge.is("USED TX", x.end(0, 3), 1);
    edge.is("told again while it POLLS", x.tell(0, 0, 4), 9);
    edge.is("USED TX is the lesser still", x.end(0, 3), 1);
  }

  private static void toldWhenNotUp() {
    edge.sentence("if it is not, USED ones are as told;");
    for (int ticks : new int[] {0, 1, 2, 10}) {
      for (int what = 0; what < 2; what++) {
        StillThere x = ticks == 0 ? new StillThere() : Due.passed(ticks);
        edge.is("tell(0," + what + ",9) at " + ticks, x.tell(0, what, 9), 1);
        edge.is("USED, more", x.end(0, 3 + what), 9);
        edge.is("tell(0," + what + ",2) at " + ticks, x.tell(0, what, 2), 9);
        edge.is("USED, less", x.end(0, 3 + what), 2);
        edge.is("the other one", x.end(0, 4 - what), 1);
        edge.is("it does not POLL", x.end(0, 6), 0);
      }
    }
  }

  private static void toldMult() {
    edge.sentence("MULT: just so.");
    for (int ticks : new int[] {1, 2, 11, 20}) {
      StillThere x = Due.passed(ticks);
      edge.is("tell(1,2,5) at " + ticks, x.tell(1, 2, 5), 1);
      edge.is("MULT", x.end(1, 2), 5);
      edge.is("it does not POLL", x.end(1, 6), 0);
      edge.is("USED TX", x.end(1, 3), 1);
      edge.is("USED RX", x.end(1, 4), 1);
    }
  }

  private static void turned() {
    edge.sentence("TURNED: an END wants DEMAND, or does no more; or a WAY is CUT, or OPEN again (a LETTER that is on "
        + "it stays).");
    for (int i = 0; i < 2; i++) {
      StillThere x = Due.passed(10);
      edge.is("demand(" + i + ")", x.demand(i), 1);
      edge.is("it wants DEMAND", x.end(i, 7), 1);
      edge.is("the other one does not", x.end(1 - i, 7), 0);
      edge.is("demand(" + i + ") again", x.demand(i), 0);
      edge.is("it does no more", x.end(i, 7), 0);
      edge.is("turn(" + i + ")", x.turn(i), 0);
      edge.is("the LETTER stays on a CUT one", x.way(i, 1), 1);
      edge.is("turn(" + i + ") again", x.turn(i), 1);
      edge.is("the LETTER stays on an OPEN one", x.way(i, 1), 1);
      x.pass(1);
      edge.is("and is HEARD", x.end(1 - i, 5), 2);
    }
  }

  private static void polled() {
    edge.sentence("POLLED: an END that is UP and does not POLL does so then; SILENCE and NEXT are 0.");
    for (int end = 0; end < 2; end++) {
      StillThere x = slow();
      edge.is("SILENCE ahead of it", x.end(end, 8), 2);
      edge.is("NEXT ahead of it", x.end(end, 9), 6);
      edge.is("poll(" + end + ")", x.poll(end), 9);
      edge.is("it POLLS", x.end(end, 6), 1);
      edge.is("SILENCE", x.end(end, 8), 0);
      edge.is("NEXT", x.end(end, 9), 0);
      edge.is("SILENCE of the other one", x.end(1 - end, 8), 2);
      edge.is("NEXT of the other one", x.end(1 - end, 9), 6);
      edge.is("the other one does not POLL", x.end(1 - end, 6), 0);
    }
  }

  private static void heardInTheNextTick() {
    edge.sentence("a LETTER SENT in a TICK is HEARD in (a) of the next one, if the WAY is OPEN then.");
    StillThere x = new StillThere();
    x.turn(0);
    x.pass(1);
    x.turn(0);
    edge.is("not in the same one", x.end(1, 8), 1);
    x.pass(1);
    edge.is("SENT on a CUT one that is OPEN then", x.end(1, 5), 1);
    x = Due.passed(1);
    x.turn(0);
    x.pass(1);
    x.turn(0);
    edge.is("SENT on an OPEN one that is CUT then", x.end(1, 5), 0);
    x.pass(1);
    edge.is("it does not come later", x.end(1, 8), 3);
  }

  private static void oneLetterOnAWay() {
    edge.sentence("An END that SENDS with a LETTER of its own still on the WAY can not be: it was taken off in (a).");
    // WAY 0 is CUT: what END 0 SENDS at 21 is taken off at 22, and what it SENDS then is HEARD at 23.
    StillThere x = Due.linked("B115115992");
    x.turn(0);
    x.tell(0, 2, 4);
    x.pass(1);
    edge.is("a LETTER at 21", x.way(0, 1), 1);
    x.tell(0, 2, 3);
    x.pass(1);
    edge.is("a LETTER at 22", x.way(0, 1), 1);
    edge.is("nothing was HEARD", x.known(1, 3), 5);
    x.turn(0);
    x.pass(1);
    edge.is("the one of 22 is HEARD", x.known(1, 3), 3);
    edge.is("and none behind it", x.end(1, 8), 0);
    edge.is("SENT", x.count(2), 8 + 6);
  }

  private static void demandAsLastHeard() {
    edge.sentence("What an END KNOWS of DEMAND is what the last LETTER that it HEARD told.");
    StillThere x = Due.linked("B115115992");
    x.demand(0);
    x.pass(2);
    edge.is("HEARD at 22", x.known(1, 4), 1);
    x.turn(0);
    x.demand(0);
    x.pass(3);
    edge.is("nothing HEARD since", x.known(1, 4), 1);
    x.turn(0);
    x.pass(1);
    edge.is("HEARD at 26", x.known(1, 4), 0);
  }

  private static void fallInHearing() {
    edge.sentence("By a FALL in (a) what is USED is as told at once; PACE is looked at as the LETTER is SENT.");
    StillThere x = Due.passed(20);
    x.tell(0, 0, 7);
    x.turn(0);
    x.pass(1);
    edge.is("USED TX at 21", x.end(0, 3), 1);
    edge.is("NEXT at 21 by PACE 1", x.end(0, 9), 1);
    x.pass(1);
    edge.is("DOWN at 22", x.end(0, 5), 0);
    edge.is("USED TX at 22", x.end(0, 3), 7);
    edge.is("a LETTER is SENT at 22", x.way(0, 1), 1);
    edge.is("NEXT at 22 by PACE 9", x.end(0, 9), 9);
  }
}
