/** Promises 9 to 14, by the story that LinkTest tells: from 20 on both ends are UP and send at each tick. */
public final class ActsTest {
  private static final int[] NO_END = {Integer.MIN_VALUE, -1, 2, Integer.MAX_VALUE};
  private static final Due due = new Due("ActsTest");

  public static void main(String[] args) {
    pass();
    tellWhenDown();
    tellTx();
    tellRx();
    tellMult();
    tellRefused();
    demand();
    demandOfBoth();
    turn();
    poll();
    pollAnsweredAtOnce();
    pollOfOneThatTrusts();
    undoEach();
    undoRow();
    due.end();
  }

  private static void pass() {
    StillThere x = new StillThere();
    for (int k : new int[] {0, -1, 31, Integer.MIN_VALUE, Integer.MAX_VALUE}) {
      due.is("9: pass(" + k + ")", x.pass(k), StillThere.OUTSIDE);
    }
    due.is("9: no ACT", x.count(4), 0);
    due.is("9: pass(1)", x.pass(1), 1);
    due.is("9: pass(30)", x.pass(30), 31);
    due.is("9: UPTIME at 31", x.count(3), 21);
    due.is("9: SENT at 31", x.count(2), 30);
    due.is("9: ACTS", x.count(4), 2);
  }

  private static void tellWhenDown() {
    StillThere x = new StillThere();
    due.is("10: tell(0,0,7)", x.tell(0, 0, 7), 1);
    due.is("10: TX", x.end(0, 0), 7);
    due.is("10: USED TX of a DOWN END", x.end(0, 3), 7);
    due.is("10: tell(0,0,2)", x.tell(0, 0, 2), 7);
    due.is("10: USED TX again", x.end(0, 3), 2);
    due.is("10: tell(0,1,9)", x.tell(0, 1, 9), 1);
    due.is("10: USED RX", x.end(0, 4), 9);
    due.is("10: tell(0,1,3)", x.tell(0, 1, 3), 9);
    due.is("10: USED RX again", x.end(0, 4), 3);
    due.is("10: it does not POLL", x.end(0, 6), 0);
    due.is("10: the other END", x.end(1, 0), 1);
    x = Due.passed(5);
    x.tell(1, 0, 8);
    due.is("10: USED TX of a COMING END", x.end(1, 3), 8);
    due.is("10: a COMING END does not POLL", x.end(1, 6), 0);
  }

  private static void tellTx() {
    StillThere x = Due.passed(20);
    due.is("10: tell(0,0,7) when UP", x.tell(0, 0, 7), 1);
    due.is("10: TX", x.end(0, 0), 7);
    due.is("10: USED TX waits", x.end(0, 3), 1);
    due.is("10: it POLLS", x.end(0, 6), 1);
    due.is("10: NEXT stays", x.end(0, 9), 1);
    // The poll is sent at 21, answered at 22, the answer heard at 23.
    x.pass(2);
    due.is("10: it POLLS at 22", x.end(0, 6), 1);
    due.is("10: USED TX at 22", x.end(0, 3), 1);
    due.is("10: PACE at 22", x.end(0, 10), 1);
    due.is("10: LIMIT of END 1 at 22", x.end(1, 11), 7);
    x.pass(1);
    due.is("10: it does not POLL at 23", x.end(0, 6), 0);
    due.is("10: USED TX at 23", x.end(0, 3), 7);
    due.is("10: NEXT at 23", x.end(0, 9), 7);
    due.is("10: tell(0,0,2)", x.tell(0, 0, 2), 7);
    due.is("10: less is USED at once", x.end(0, 3), 2);
    x = Due.passed(20);
    x.tell(0, 0, 7);
    x.turn(0);
    x.pass(2);
    due.is("10: a fall: USED as told", x.end(0, 3), 7);
    due.is("10: a fall: it POLLS no more", x.end(0, 6), 0);
    x = Due.passed(20);
    due.is("10: the same again", x.tell(0, 0, 1), 1);
    due.is("10: it POLLS all the same", x.end(0, 6), 1);
  }

  private static void tellRx() {
    StillThere x = Due.passed(20);
    due.is("10: tell(1,1,9) when UP", x.tell(1, 1, 9), 1);
    due.is("10: more is USED at once", x.end(1, 4), 9);
    due.is("10: LIMIT", x.end(1, 11), 9);
    due.is("10: tell(1,1,3)", x.tell(1, 1, 3), 9);
    due.is("10: less waits", x.end(1, 4), 9);
    due.is("10: RX", x.end(1, 1), 3);
    x.pass(2);
    due.is("10: PACE of END 0 at 22", x.end(0, 10), 3);
    due.is("10: USED RX at 22", x.end(1, 4), 9);
    x.pass(1);
    due.is("10: USED RX at 23", x.end(1, 4), 3);
    due.is("10: USED TX of it stays", x.end(1, 3), 1);
  }

  private static void tellMult() {
    StillThere x = Due.passed(20);
    due.is("10: tell(0,2,5)", x.tell(0, 2, 5), 1);
    due.is("10: MULT", x.end(0, 2), 5);
    due.is("10: no POLL", x.end(0, 6), 0);
    due.is("10: not known yet", x.end(1, 11), 1);
    x.pass(2);
    due.is("10: known at 22", x.end(1, 11), 5);
    due.is("10: LIMIT of its own stays", x.end(0, 11), 1);
  }

  private static void tellRefused() {
    StillThere x = new StillThere();
    for (int end : NO_END) due.is("10: tell(" + end + ",3,0)", x.tell(end, 3, 0), StillThere.UNKNOWN);
    int[][] outside = {{-1, 1}, {3, 1}, {Integer.MIN_VALUE, 1}, {Integer.MAX_VALUE, 1}, {0, 0}, {0, 10}, {1, 0},
        {1, 10}, {2, 0}, {2, 6}, {2, Integer.MAX_VALUE}, {0, Integer.MIN_VALUE}};
    for (int[] o : outside) due.is("10: tell(1," + o[0] + "," + o[1] + ")", x.tell(1, o[0], o[1]), StillThere.OUTSIDE);
    due.is("10: no ACT", x.count(4), 0);
    due.is("10: tell(1,2,5)", x.tell(1, 2, 5), 1);
  }

  private static void demand() {
    StillThere x = Due.passed(20);
    for (int end : NO_END) due.is("11: demand(" + end + ")", x.demand(end), StillThere.UNKNOWN);
    due.is("11: demand(0)", x.demand(0), 1);
    due.is("11: it wants DEMAND", x.end(0, 7), 1);
    due.is("11: not known yet", x.known(1, 4), 0);
    // END 1 sends at 21 for the last time, END 0 at each tick.
    due.is("11: letters(10)", x.letters(10), 11);
    x.pass(2);
    due.is("11: known at 22", x.known(1, 4), 1);
    due.is("11: nothing on WAY 1", x.way(1, 1), 0);
    x.pass(5);
    due.is("11: SILENCE of END 0", x.end(0, 8), 5);
    due.is("11: it TRUSTS", x.end(0, 5), 2);
    due.is("11: NEXT of END 1", x.end(1, 9), 0);
    due.is("11: demand(0) again", x.demand(0), 0);
    // It does not TRUST any more, and END 1 hears of it only at 29.
    x.pass(1);
    due.is("11: and falls", x.end(0, 5), 0);
    due.is("11: ACTS", x.count(4), 6);
  }

  private static void demandOfBoth() {
    StillThere x = Due.passed(20);
    x.demand(0);
    x.demand(1);
    x.pass(2);
    due.is("11: both STILL", x.letters(99), 0);
    due.is("11: both UP", x.ahead(99, 3), 111);
    x.turn(0);
    x.turn(1);
    due.is("11: no one notices", x.end(0, 12), StillThere.NONE);
    // DEMAND is of no use to ends that are not UP.
    x = Due.linked("B111111d0d192");
    due.is("11: COMING ends send", x.count(2), 4);
    x.turn(1);
    x.pass(9);
    due.is("11: and do not TRUST", x.end(0, 5), 0);
  }

  private static void turn() {
    StillThere x = Due.passed(20);
    for (int way : NO_END) due.is("12: turn(" + way + ")", x.turn(way), StillThere.UNKNOWN);
    due.is("12: turn(0)", x.turn(0), 0);
    due.is("12: turn(0) again", x.turn(0), 1);
    x.pass(1);
    due.is("12: the LETTER on it was heard", x.end(1, 8), 0);
    x.turn(0);
    x.pass(1);
    due.is("12: END 1 falls", x.end(1, 5), 0);
    due.is("12: END 0 does not yet", x.end(0, 5), 2);
    due.is("12: UPTIME", x.count(3), 11);
    x.pass(1);
    due.is("12: END 0 falls", x.end(0, 5), 0);
    x.pass(30);
    due.is("12: END 1 stays DOWN", x.end(1, 5), 0);
    due.is("12: turn(0), OPEN again", x.turn(0), 1);
    x.pass(30);
    due.is("12: END 0 is UP again", x.end(0, 5), 2);
    due.is("12: END 1 is UP again", x.end(1, 5), 2);
    due.is("12: ACTS", x.count(4), 10);
  }

  private static void poll() {
    StillThere x = new StillThere();
    for (int end : NO_END) due.is("13: poll(" + end + ")", x.poll(end), StillThere.UNKNOWN);
    due.is("13: poll(0) when DOWN", x.poll(0), StillThere.STATE);
    x.pass(5);
    due.is("13: poll(0) when COMING", x.poll(0), StillThere.STATE);
    x.pass(7);
    due.is("13: poll(0) when UP", x.poll(0), 9);
    due.is("13: poll(0) when it POLLS", x.poll(0), StillThere.STATE);
    due.is("13: poll(1)", x.poll(1), 9);
    due.is("13: ACTS", x.count(4), 4);
    x = Due.passed(20);
    x.tell(1, 2, 4);
    x.pass(2);
    due.is("13: LIMIT by the MULT that it KNOWS", x.poll(0), 4);
  }

  private static void pollAnsweredAtOnce() {
    // Letters at 28, heard at 29; asked at 31, when NEXT is 6 and SILENCE 2.
    StillThere x = Due.linked("B9919919994");
    due.is("13: SILENCE at 31", x.end(0, 8), 2);
    due.is("13: NEXT at 31", x.end(0, 9), 6);
    due.is("13: poll(0)", x.poll(0), 9);
    due.is("13: SILENCE is 0", x.end(0, 8), 0);
    due.is("13: NEXT is 0", x.end(0, 9), 0);
    due.is("13: it POLLS", x.end(0, 6), 1);
    x.pass(1);
    due.is("13: the poll is on its way", x.way(0, 1), 1);
    due.is("13: NEXT is PACE", x.end(0, 9), 9);
    x.pass(1);
    due.is("13: the answer is on its way", x.way(1, 1), 1);
    due.is("13: NEXT of END 1", x.end(1, 9), 9);
    due.is("13: it POLLS still", x.end(0, 6), 1);
    x.pass(1);
    due.is("13: answered", x.end(0, 6), 0);
    due.is("13: SILENCE", x.end(0, 8), 0);
    due.is("13: SENT", x.count(2), 10);
  }

  private static void pollOfOneThatTrusts() {
    StillThere x = Due.passed(20);
    x.demand(0);
    x.demand(1);
    x.pass(5);
    due.is("13: both STILL", x.letters(30), 0);
    due.is("13: poll(0)", x.poll(0), 1);
    // LIMIT is 1: no answer can come in time.
    x.pass(1);
    due.is("13: one that POLLS does not TRUST", x.end(0, 5), 0);
    x = Due.linked("B115115999d0d12");
    due.is("13: STILL with MULT 5", x.letters(30), 0);
    due.is("13: poll(0), MULT 5", x.poll(0), 5);
    // It sends at each tick until the answer comes: two polls, each of them answered.
    due.is("13: polls and answers", x.letters(30), 4);
    x.turn(1);
    due.is("13: a cut is noticed by a poll", x.end(0, 12), 5);
    due.is("13: but not by the other END", x.ahead(5, 1), 2);
  }

  private static void undoEach() {
    StillThere x = Due.linked("B2123149993");
    for (int act = 0; act < 7; act++) {
      String before = Due.told(x);
      switch (act) {
        case 0: x.pass(17); break;
        case 1: x.tell(0, 0, 9); break;
        case 2: x.tell(1, 1, 9); break;
        case 3: x.tell(1, 2, 5); break;
        case 4: x.demand(1); break;
        case 5: x.turn(1); break;
        default: x.poll(0);
      }
      due.is("14: ACTS behind " + act, x.count(4), 1);
      due.is("14: it changed something, " + act, Due.told(x).equals(before) ? 1 : 0, 0);
      due.is("14: undo() of " + act, x.undo(), 0);
      due.same("14: all, " + act, Due.told(x), before);
    }
    due.is("14: undo() of nothing", x.undo(), StillThere.STATE);
    // A letter that was on a way is there again, with what it told.
    x = Due.linked("B23231411");
    x.pass(1);
    x.undo();
    x.pass(1);
    due.is("14: heard again", x.known(0, 3), 4);
  }

  private static void undoRow() {
    StillThere x = new StillThere();
    for (int i = 1; i <= 16; i++) {
      due.is("14: pass(2), act " + i, x.pass(2), 2 * i);
      due.is("14: ACTS, act " + i, x.count(4), Math.min(i, 14));
    }
    x.pass(99);
    x.tell(0, 0, 0);
    x.demand(2);
    x.turn(2);
    due.is("14: what is refused is no ACT", x.count(4), 14);
    for (int left = 13; left >= 0; left--) {
      due.is("14: undo()", x.undo(), left);
      due.is("14: THE CLOCK", x.count(1), 4 + 2 * left);
    }
    due.is("14: undo() of what was forgotten", x.undo(), StillThere.STATE);
    due.is("14: THE CLOCK stays", x.count(1), 4);
    due.is("14: MOOD at 4", x.end(0, 5), 1);
    due.is("14: SENT at 4", x.count(2), 2);
    x.turn(0);
    due.is("14: an ACT behind it", x.undo(), 0);
    due.is("14: OPEN again", x.way(0, 0), 1);
  }
}
