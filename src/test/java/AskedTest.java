/** Promises 15 to 20, by the story that LinkTest tells. */
public final class AskedTest {
  private static final int NONE = StillThere.NONE;
  private static final Due due = new Due("AskedTest");

  public static void main(String[] args) {
    ahead();
    letters();
    judgeTicks();
    judgeDone();
    judgeAsked();
    judgeWrong();
    see();
    unsee();
    which();
    whichAsAsked();
    due.end();
  }

  private static void ahead() {
    StillThere x = new StillThere();
    int[][] rows = {{0, 0, 0, 0, 0}, {1, 0, 0, 2, 0}, {2, 1, 1, 2, 0}, {10, 1, 1, 4, 0}, {11, 2, 2, 4, 1},
        {19, 2, 2, 6, 9}, {20, 2, 2, 8, 10}, {99, 2, 2, 166, 89}};
    for (int[] row : rows) {
      for (int what = 0; what < 4; what++) {
        due.is("15: ahead(" + row[0] + "," + what + ")", x.ahead(row[0], what), row[1 + what]);
      }
    }
    x.pass(20);
    due.is("15: ahead(0,2) at 20", x.ahead(0, 2), 8);
    due.is("15: ahead(5,2) at 20", x.ahead(5, 2), 18);
    due.is("15: ahead(5,3) at 20", x.ahead(5, 3), 15);
    x.turn(0);
    due.is("15: END 0 is UP behind a tick", x.ahead(1, 0), 2);
    due.is("15: END 1 is not", x.ahead(1, 1), 0);
    due.is("15: nothing is changed", x.count(1), 20);
    due.is("15: no ACT", x.count(4), 2);
    int[][] outside = {{-1, 0}, {100, 0}, {0, -1}, {0, 4}, {Integer.MIN_VALUE, 0}, {Integer.MAX_VALUE, 0},
        {0, Integer.MIN_VALUE}, {0, Integer.MAX_VALUE}};
    for (int[] o : outside) due.is("15: ahead(" + o[0] + "," + o[1] + ")", x.ahead(o[0], o[1]), StillThere.OUTSIDE);
  }

  private static void letters() {
    StillThere x = new StillThere();
    int[][] rows = {{0, 0}, {1, 2}, {9, 2}, {10, 4}, {19, 6}, {20, 8}, {99, 166}};
    for (int[] row : rows) due.is("16: letters(" + row[0] + ")", x.letters(row[0]), row[1]);
    x.pass(20);
    due.is("16: letters(5) at 20", x.letters(5), 10);
    due.is("16: nothing is changed", x.count(2), 8);
    for (int k : new int[] {-1, 100, Integer.MIN_VALUE, Integer.MAX_VALUE}) {
      due.is("16: letters(" + k + ")", x.letters(k), StillThere.OUTSIDE);
    }
  }

  private static void judged(StillThere x, int n, long row, int want) {
    due.is("17: judge(" + n + "," + row + ")", x.judge(n, row), want);
  }

  private static void judgeTicks() {
    StillThere x = new StillThere();
    judged(x, 1, 101, NONE);
    judged(x, 1, 130, NONE);
    judged(x, 2, 111502, NONE);
    judged(x, 2, 110502, 1);
    judged(x, 2, 110501, NONE);
    judged(x, 4, 105106502512L, NONE);
    judged(x, 4, 105105502512L, 2);
    judged(x, 4, 130130130502L, NONE);
    due.is("17: nothing is changed", x.count(1), 0);
    due.is("17: no ACT", x.count(4), 0);
  }

  private static void judgeDone() {
    StillThere x = new StillThere();
    judged(x, 1, 400, 0);
    judged(x, 3, 105401502, 1);
    judged(x, 3, 120401611, NONE);
    judged(x, 3, 120401601, 2);
    judged(x, 3, 120400400, 2);
    // The answer to a poll is heard three ticks behind it.
    judged(x, 4, 120400102601L, NONE);
    judged(x, 4, 120400103601L, 3);
    judged(x, 4, 120400103600L, NONE);
    // A cut of WAY 1 is noticed by END 0 at once, one of WAY 0 when it hears of it.
    judged(x, 4, 120301101500L, NONE);
    judged(x, 4, 120300101500L, 3);
    judged(x, 4, 120300101510L, NONE);
    judged(x, 4, 120300102500L, NONE);
    judged(x, 4, 120301301101L, NONE);
    x.pass(20);
    x.turn(1);
    judged(x, 2, 101500, NONE);
    judged(x, 3, 200101502, NONE);
    judged(x, 3, 201101502, 2);
    judged(x, 3, 301101502, NONE);
    due.is("17: WAY 1 is CUT still", x.way(1, 0), 0);
    due.is("17: no DEMAND", x.end(0, 7), 0);
  }

  private static void judgeAsked() {
    StillThere x = new StillThere();
    judged(x, 2, 500510, NONE);
    judged(x, 1, 501, 0);
    judged(x, 1, 502, 0);
    judged(x, 2, 600610, NONE);
    judged(x, 1, 601, 0);
    judged(x, 2, 709719, NONE);
    judged(x, 1, 708, 0);
    judged(x, 1, 700, 0);
    StillThere y = Due.linked("B213422999");
    judged(y, 2, 702714, NONE);
    judged(y, 2, 702712, 1);
    judged(y, 1, 704, 0);
    y.tell(1, 0, 1);
    judged(y, 3, 600611711, NONE);
  }

  private static void judgeWrong() {
    StillThere x = Due.passed(20);
    int[] wrong = {0, 1, 99, 100, 131, 199, 202, 210, 302, 311, 402, 410, 503, 509, 520, 522, 602, 609, 620, 720,
        791, 800, 801, 900, 999};
    for (int doing : wrong) {
      judged(x, 1, doing, 0);
      judged(x, 3, 101000101 + 1000L * doing, 1);
    }
    judged(x, 2, 101, 0);
    judged(x, 3, 101999999, 1);
    judged(x, 4, 999999999999L, 0);
    judged(x, 4, 0, 0);
    judged(x, 4, 101101101000L, 3);
    long[][] outside = {{0, 0}, {5, 0}, {-1, 101}, {1, -1}, {1, 1000}, {2, 1000000}, {3, 1000000000}, {4, 1000000000000L},
        {1, Long.MAX_VALUE}, {4, Long.MAX_VALUE}, {4, Long.MIN_VALUE}, {Integer.MIN_VALUE, 101},
        {Integer.MAX_VALUE, 101}, {1, (1L << 32) + 101}};
    for (long[] o : outside) judged(x, (int) o[0], o[1], StillThere.OUTSIDE);
  }

  private static void see() {
    StillThere x = new StillThere();
    for (int end : new int[] {-1, 2, Integer.MIN_VALUE, Integer.MAX_VALUE}) {
      due.is("18: see(100," + end + ",3)", x.see(100, end, 3), StillThere.UNKNOWN);
    }
    int[][] outside = {{-1, 0}, {100, 0}, {0, -1}, {0, 3}, {Integer.MIN_VALUE, 0}, {Integer.MAX_VALUE, 0},
        {0, Integer.MIN_VALUE}, {0, Integer.MAX_VALUE}};
    for (int[] o : outside) due.is("18: see(" + o[0] + ",1," + o[1] + ")", x.see(o[0], 1, o[1]), StillThere.OUTSIDE);
    due.is("18: none", x.count(5), 0);
    for (int i = 1; i <= 6; i++) {
      due.is("18: see, " + i, x.see(33 * (i % 4), i % 2, i % 3), i);
      due.is("18: count(5), " + i, x.count(5), i);
    }
    due.is("18: a seventh", x.see(0, 0, 0), StillThere.FULL);
    due.is("18: a seventh, OUTSIDE", x.see(100, 0, 0), StillThere.OUTSIDE);
    due.is("18: a seventh, UNKNOWN", x.see(100, 2, 0), StillThere.UNKNOWN);
    due.is("18: no ACT", x.count(4), 0);
  }

  private static void unsee() {
    StillThere x = Due.passed(20);
    due.is("19: unsee() of nothing", x.unsee(), 0);
    x.see(0, 0, 0);
    x.see(1, 0, 0);
    due.is("19: which()", x.which(), 0);
    due.is("19: unsee()", x.unsee(), 2);
    due.is("19: count(5)", x.count(5), 0);
    due.is("19: which() of nothing", x.which(), 1022);
    due.is("19: see", x.see(0, 0, 2), 1);
    due.is("19: which() anew", x.which(), 1022);
  }

  private static void which() {
    // WAY 1 being CUT, END 0 is DOWN when SILENCE is its RX, and stays so.
    StillThere x = Due.passed(20);
    x.turn(1);
    for (int rx = 1; rx <= 9; rx++) {
      x.see(rx, 0, 0);
      due.is("20: DOWN behind " + rx, x.which(), (2 << rx) - 2);
      x.unsee();
      x.see(rx, 0, 2);
      due.is("20: UP behind " + rx, x.which(), 1024 - (2 << rx));
      x.unsee();
    }
    x.see(4, 0, 0);
    due.is("20: which()", x.which(), 30);
    x.see(2, 0, 2);
    due.is("20: both SEEN", x.which(), 24);
    x.see(4, 1, 2);
    due.is("20: END 1 hears of it a tick later", x.which(), 16);
    x.see(99, 0, 1);
    due.is("20: never so", x.which(), 0);
    due.is("20: RX stays", x.end(0, 1), 1);
    due.is("20: USED RX stays", x.end(0, 4), 1);
    due.is("20: nothing is changed", x.count(1), 20);
  }

  private static void whichAsAsked() {
    StillThere x = new StillThere();
    x.see(4, 0, 0);
    x.see(2, 0, 2);
    due.is("20: COMING ends", x.which(), 0);
    Due.write(x, "B111111992w1");
    x.link();
    due.is("20: another LINK leaves SEEN", x.which(), 24);
    x.turn(1);
    due.is("20: as it is when asked", x.which(), 0);
    x.turn(1);
    x.tell(0, 1, 8);
    due.is("20: RX as it is does not matter", x.which(), 24);
    // If the RX brought a POLL, END 0 would not TRUST.
    x = Due.passed(20);
    x.demand(0);
    x.turn(1);
    x.see(99, 0, 2);
    due.is("20: no POLL", x.which(), 1022);
  }
}
