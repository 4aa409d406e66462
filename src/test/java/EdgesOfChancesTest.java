import java.math.BigInteger;

/**
 * The sentences on fractions, shares, luck, the seed, the slots and the counts (Terms, Terms 3 and 4,
 * promises 21 to 27) that name an edge, in the document's order.
 */
public final class EdgesOfChancesTest {
  private static final int UNKNOWN = StillThere.UNKNOWN, OUTSIDE = StillThere.OUTSIDE, STATE = StillThere.STATE;
  private static final int[] FAR = {Integer.MIN_VALUE, Integer.MAX_VALUE};
  private static final BigInteger TIMES = new BigInteger("6364136223846793005");
  private static final BigInteger PLUS = new BigInteger("1442695040888963407");
  private static final BigInteger ALL = BigInteger.ONE.shiftLeft(64);
  private static final Edge edge = new Edge("EdgesOfChancesTest");

  public static void main(String[] args) {
    fractions();
    shareOfEach();
    shareInEachOrder();
    shareForSixtyTicks();
    luckOfNone();
    luckOfTheMost();
    luckByTenths();
    luckFortyAhead();
    luckInOrder();
    seedWraps();
    drawnByHigherBits();
    drawnTurns();
    drawnOnAndOn();
    drawnLeaves();
    slots();
    kept();
    share();
    luck();
    seed();
    drawn();
    keep();
    again();
    count();
    edge.end();
  }

  private static void fraction(String call, int above, int below, int wantAbove, int wantBelow) {
    edge.is(call + ", above", above, wantAbove);
    edge.is(call + ", below", below, wantBelow);
  }

  private static void shared(StillThere x, int setting, int above, int below) {
    fraction("share(" + setting + ")", x.share(setting, true), x.share(setting, false), above, below);
  }

  private static void lucky(StillThere x, int r, int tenths, int above, int below) {
    fraction("luck(" + r + "," + tenths + ")", x.luck(r, tenths, true), x.luck(r, tenths, false), above, below);
  }

  /** Both send each 9 ticks, at 19, 28, 37, ..; a loss makes one FALL, and both are UP again 27 ticks later. */
  private static StillThere slow(int ticks) {
    StillThere x = Due.linked("B991991999");
    if (ticks > 27) x.pass(ticks - 27);
    return x;
  }

  private static void fractions() {
    edge.sentence("FRACTIONS are told above (upper = true; less than 0, if they are), below, in least terms (0 is 0 "
        + "above, 1 below); refusals of them are told likewise.");
    shared(new StillThere(), 0, 0, 1);
    shared(Due.linked("B211121"), 0, 21, 2);
    shared(Due.linked("B311111"), 0, 28, 1);
    shared(Due.linked("B21417239"), 0, -1, 2);
    shared(usingNine(), 1, -30, 1);
    lucky(new StillThere(), 0, 0, 1, 1);
    lucky(Due.linked("B111111w0"), 1, 5, 0, 1);
    lucky(slow(33), 3, 5, 7, 8);
    lucky(slow(33), 3, 4, 107, 125);
    lucky(slow(33), 3, 1, 919, 1000);
    StillThere x = new StillThere();
    fraction("share(4)", x.share(4, true), x.share(4, false), UNKNOWN, UNKNOWN);
    fraction("luck(7,0)", x.luck(7, 0, true), x.luck(7, 0, false), OUTSIDE, OUTSIDE);
    fraction("luck(0,11)", x.luck(0, 11, true), x.luck(0, 11, false), OUTSIDE, OUTSIDE);
  }

  private static void shareOfEach() {
    edge.sentence("SHARE of a SETTING (0: TX of END 0, 1: RX of END 0, 2: TX, 3: RX of END 1): each is 1 (USED one, "
        + "too), if it has not come, else as it is;");
    // Only one of them is not 1: letters of one END each third tick, 16 instead of 44.
    String[] links = {"B311111", "B131111", "B111311", "B111131"};
    for (int come = 0; come < 4; come++) {
      for (int setting = 0; setting < 4; setting++) shared(Due.linked(links[come]), setting, setting == come ? 28 : 0, 1);
    }
    shared(usingNine(), 1, -30, 1);
    for (int setting : new int[] {0, 2, 3}) shared(usingNine(), setting, 0, 1);
  }

  /**
   * At 20 RX of END 0 is 1 again, but USED RX 9. If that is left, both are UP on and on: 60 and 59 letters.
   * If USED RX is 1, END 0 FALLS at 21, the other one at 22; END 0 is COMING at 29, END 1 UP at 31, END 0 at
   * 38: letters at 21, 30, 39 .. 80 and at 28, 37 .. 80: 44 and 45.
   */
  private static StillThere usingNine() {
    StillThere x = Due.linked("B191111992");
    x.tell(0, 1, 1);
    return x;
  }

  private static void shareInEachOrder() {
    edge.sentence("if SETTINGS come one by one, in each order as likely: by how many fewer LETTERS are SENT in the "
        + "next 60 TICKS in the mean when it has come: a FRACTION.");
    // PACE of END 0 is 2 by either: 21 fewer by the first of the two that comes.
    StillThere x = Due.linked("B211121");
    shared(x, 0, 21, 2);
    shared(x, 3, 21, 2);
    // 21 fewer by a 2, 28 by a 3: a 3 behind a 2 brings 7, a 2 behind a 3 none.
    x = Due.linked("B211131");
    shared(x, 0, 21, 2);
    shared(x, 3, 35, 2);
    x = Due.linked("B121311");
    shared(x, 1, 21, 2);
    shared(x, 2, 35, 2);
    // PACES of the two ENDS do not hang together.
    x = Due.linked("B231231");
    shared(x, 0, 21, 2);
    shared(x, 1, 35, 2);
    shared(x, 2, 21, 2);
    shared(x, 3, 35, 2);
  }

  private static void shareForSixtyTicks() {
    edge.sentence("LETTERS are SENT in the next 60 TICKS");
    // At 1, 10 and at each tick from 19 on, or at 19, 28, .., 55 (64 would be the next): 44 or 7 until 60.
    shared(Due.linked("B911111"), 0, 37, 1);
    // At 1, 10, and 19, 27, 35, 43, 51, 59: 44 or 8.
    shared(Due.linked("B811111"), 0, 36, 1);
  }

  private static void luckOfNone() {
    edge.sentence("LUCK: of the next r LETTERS (0 to 6) that are SENT each is lost by x tenths (0 to 10), by itself: "
        + "that both ENDS are UP AHEAD 40: a FRACTION.");
    for (int x = 0; x <= 10; x += 5) {
      lucky(Due.passed(20), 0, x, 1, 1);
      lucky(Due.linked("B111111w0"), 0, x, 0, 1);
    }
    lucky(slow(33), 0, 10, 1, 1);
  }

  private static void luckOfTheMost() {
    edge.sentence("LUCK: of the next r LETTERS (0 to 6) that are SENT");
    // All lost: both FALL at 38, tell DOWN at 46, 55, 64, are COMING when the first one of them is HEARD, and UP 9 later.
    // Four lost: UP at 65. Five (END 1 HEARS nothing at 56, but COMING at 65): END 0 is UP at 74. Six: both UP at 74.
    lucky(slow(33), 4, 10, 1, 1);
    lucky(slow(33), 5, 10, 0, 1);
    lucky(slow(33), 6, 10, 0, 1);
    lucky(slow(34), 5, 10, 1, 1);
    lucky(slow(34), 6, 10, 1, 1);
    // A seventh one would make it COMING at 74.
    edge.is("luck(7,10)", slow(34).luck(7, 10, true), OUTSIDE);
    // At 33: one alone of the third and the fourth makes it late; the fifth and the sixth must come, whatever they tell.
    lucky(slow(33), 2, 5, 1, 1);
    lucky(slow(33), 4, 5, 7, 8);
    lucky(slow(33), 5, 5, 7, 16);
    lucky(slow(33), 6, 5, 7, 32);
  }

  private static void luckByTenths() {
    edge.sentence("each is lost by x tenths (0 to 10), by itself");
    // The third one, lost alone, is what matters at 33: 1 less (1 - x)(1 - x)x.
    int[][] rows = {{0, 1, 1}, {1, 919, 1000}, {2, 109, 125}, {3, 853, 1000}, {4, 107, 125}, {5, 7, 8}, {6, 113, 125},
        {7, 937, 1000}, {8, 121, 125}, {9, 991, 1000}, {10, 1, 1}};
    for (int[] row : rows) lucky(slow(33), 3, row[0], row[1], row[2]);
  }

  private static void luckFortyAhead() {
    edge.sentence("that both ENDS are UP AHEAD 40");
    // The third one is SENT at 46; lost alone, it makes END 1 FALL at 47, and both are UP again at 74.
    lucky(slow(33), 3, 5, 7, 8);
    lucky(slow(34), 3, 5, 1, 1);
    // WAY 1 being CUT END 0 FALLS when SILENCE is 40 or 45.
    for (int tx = 8; tx <= 9; tx++) {
      StillThere x = Due.linked("B" + tx + tx + "5" + tx + tx + "5992w1");
      edge.is("END 0 AHEAD 40", x.ahead(40, 0), tx == 8 ? 0 : 2);
      lucky(x, 0, 0, tx == 8 ? 0 : 1, 1);
    }
    // Both ENDS: one alone is not enough.
    StillThere x = Due.linked("B111111d0992");
    x.turn(0);
    x.turn(1);
    edge.is("END 0 is UP AHEAD 40", x.ahead(40, 0), 2);
    lucky(x, 0, 0, 0, 1);
    x = Due.linked("B111111d1992");
    x.turn(0);
    x.turn(1);
    edge.is("END 1 is UP AHEAD 40", x.ahead(40, 1), 2);
    lucky(x, 0, 0, 0, 1);
  }

  private static void luckInOrder() {
    edge.sentence("in LUCK those that are SENT from the next TICK on, END 0's ahead of END 1's in one TICK (one that "
        + "is on a WAY now is none of them).");
    // The LETTERS that are SENT at 19 tell UP; when they are HEARD, both are STILL, and none is SENT any more.
    StillThere x = Due.linked("B115115d0d1991");
    edge.is("LETTERS are on both WAYS", x.way(0, 1) + x.way(1, 1), 2);
    for (int r = 0; r <= 6; r++) {
      for (int tenths = 0; tenths <= 10; tenths++) lucky(x, r, tenths, 1, 1);
    }
    // At 18 they are the next two. If one of them alone is lost, the END that did not hear it FALLS 45 ticks behind 11.
    x = Due.linked("B115115d0d199");
    lucky(x, 0, 10, 1, 1);
    lucky(x, 1, 10, 0, 1);
    lucky(x, 2, 10, 1, 1);
    lucky(x, 1, 3, 7, 10);
    lucky(x, 2, 3, 29, 50);
    // END 0 KNOWS MULT 5, END 1 MULT 1: END 1 FALLS by the loss of the first (UP again in time) or, if that came, of the
    // third one (too late), as they are END 0's.
    x = Due.linked("B9919959996");
    lucky(x, 2, 3, 1, 1);
    lucky(x, 3, 3, 79, 100);
    lucky(x, 3, 10, 1, 1);
    // The other way round: END 0 FALLS by the loss of the second one, and tells so in the third: it is too late if both
    // are lost.
    x = Due.linked("B9959919996");
    lucky(x, 2, 3, 1, 1);
    lucky(x, 3, 3, 91, 100);
    lucky(x, 3, 10, 0, 1);
    // What END 0 SENDS on a CUT WAY is one of them, though END 1 would not hear it: the second one is END 1's first.
    x = Due.linked("B995991992w0");
    lucky(x, 1, 10, 1, 1);
    lucky(x, 2, 10, 0, 1);
    lucky(x, 2, 4, 3, 5);
  }

  private static long becomes(long x) {
    return BigInteger.valueOf(x).multiply(TIMES).add(PLUS).mod(ALL).longValue();
  }

  /** The seed that becomes this one. */
  private static long ahead(long x) {
    return BigInteger.valueOf(x).subtract(PLUS).multiply(TIMES.modInverse(ALL)).mod(ALL).longValue();
  }

  private static void seedWraps() {
    edge.sentence("ahead of each x (THE SEED, a long; 0 at first) becomes x * 6364136223846793005L + "
        + "1442695040888963407L (64 bits, wrapping)");
    StillThere x = new StillThere();
    x.drawn(1);
    edge.is("0 at first", x.seed(1), 1442695040888963407L);
    x.drawn(1);
    edge.is("behind 1", x.seed(2), 7806831264735756412L);
    for (long seed : new long[] {2, -1, -2, 5, Long.MAX_VALUE, Long.MIN_VALUE, Long.MIN_VALUE + 1, 1L << 33, -1L << 33}) {
      x.seed(seed);
      x.drawn(1);
      edge.is("behind " + seed, x.seed(0), becomes(seed));
      x.seed(seed);
      x.drawn(2);
      edge.is("two behind " + seed, x.seed(0), becomes(becomes(seed)));
    }
  }

  private static void drawnOnce(StillThere x, long seed, int uptime) {
    x.seed(ahead(seed));
    edge.is("drawn(1) by " + seed, x.drawn(1), uptime);
    edge.is("THE SEED behind it", x.seed(0), seed);
  }

  /** WAY 1 is CUT at 20: UPTIME grows if v TURNS it. */
  private static StillThere cut(int way) {
    StillThere x = Due.passed(20);
    x.turn(way);
    return x;
  }

  private static void drawnByHigherBits() {
    edge.sentence("v is (int) (x >>> 33): if v % 16 is 0, WAY v / 16 % 2 is TURNED");
    long low = (1L << 33) - 1;
    for (long v = 0; v <= 513; v++) {
      boolean turns = v % 16 == 0;
      drawnOnce(Due.passed(20), v << 33, turns ? 0 : 1);
      drawnOnce(Due.passed(20), (v << 33) + low, turns ? 0 : 1);
      drawnOnce(cut(0), v << 33, turns && v % 32 == 0 ? 1 : 0);
      drawnOnce(cut(1), v << 33, turns && v % 32 == 16 ? 1 : 0);
    }
    // The highest bit: v is never less than 0.
    long most = (1L << 31) - 1;
    drawnOnce(Due.passed(20), -1L, 1);
    drawnOnce(cut(1), -1L, 0);
    drawnOnce(cut(1), (most - 15) << 33, 1);
    drawnOnce(cut(0), (most - 15) << 33, 0);
    drawnOnce(cut(0), Long.MIN_VALUE, 1);
    drawnOnce(cut(1), Long.MIN_VALUE, 0);
    drawnOnce(cut(1), Long.MIN_VALUE + (16L << 33), 1);
  }

  private static void drawnTurns() {
    edge.sentence("from how all is now: by how much UPTIME is more behind them all.");
    edge.is("both DOWN", new StillThere().drawn(1), 0);
    StillThere x = Due.passed(20);
    edge.is("UPTIME is 10", x.count(3), 10);
    x.seed(ahead(1L << 33));
    edge.is("only what is more", x.drawn(1), 1);
    // TURNED ahead of the tick, not behind it.
    drawnOnce(cut(0), 0, 1);
    drawnOnce(Due.passed(20), 0, 0);
    // Each drawing starts from how all is now, not from where the last one ended.
    x = Due.passed(20);
    x.seed(ahead(0));
    edge.is("a WAY is CUT", x.drawn(1), 0);
    x.seed(ahead(1L << 33));
    edge.is("it is OPEN now", x.drawn(1), 1);
  }

  private static void drawnOnAndOn() {
    edge.sentence("DRAWN by THE SEED: m TICKS (1 to 99)");
    for (int m : new int[] {1, 2, 30, 31, 98, 99}) {
      for (long seed = 0; seed < 12; seed++) {
        StillThere x = Due.linked("B113113992");
        x.seed(seed);
        int uptime = x.drawn(m);
        long left = x.seed(0);
        // The same by acts, tick by tick.
        StillThere y = Due.linked("B113113992");
        long each = seed;
        for (int i = 0; i < m; i++) {
          each = becomes(each);
          int v = (int) (each >>> 33);
          if (v % 16 == 0) y.turn(v / 16 % 2);
          y.pass(1);
        }
        edge.is("drawn(" + m + ") by " + seed, uptime, y.count(3) - 10);
        edge.is("THE SEED behind " + m, left, each);
      }
    }
  }

  private static void drawnLeaves() {
    edge.sentence("(Nothing changes but THE SEED.)");
    for (int m : new int[] {1, 99}) {
      edge.leaves("drawn(" + m + ")", x -> {
        long was = x.seed(3);
        int drawn = x.drawn(m);
        x.seed(was);
        return drawn;
      });
    }
  }

  private static void slots() {
    edge.sentence("SLOTS to keep in, 0 to 1");
    for (int slot : new int[] {-1, 2, FAR[0], FAR[1]}) {
      edge.refused("keep(" + slot + ")", UNKNOWN, x -> x.keep(slot));
      edge.refused("again(" + slot + ")", UNKNOWN, x -> x.again(slot));
    }
    StillThere x = Due.passed(5);
    edge.is("keep(0)", x.keep(0), 5);
    x.pass(6);
    edge.is("keep(1)", x.keep(1), 11);
    x.pass(9);
    edge.is("again(0)", x.again(0), 5);
    edge.is("COMING", x.end(0, 5), 1);
    edge.is("again(1)", x.again(1), 11);
    edge.is("UP", x.end(0, 5), 2);
  }

  private static void kept() {
    edge.sentence("keep ENDS with all that they have, WAYS, LETTERS on them, THE CLOCK, SENT, UPTIME (THE ROW of "
        + "ACTS is empty when one goes on).");
    for (int slot = 0; slot < 2; slot++) {
      int s = slot;
      edge.same("gone on from " + s, () -> elsewhereAndBack(s), () -> withoutRow(s));
      String now = Due.told(Histories.polling());
      edge.is("as it was when kept in " + s, Due.told(elsewhereAndBack(s)).equals(now) ? 1 : 0, 1);
    }
    StillThere x = Histories.full();
    x.keep(0);
    edge.is("keep() leaves THE ROW", x.count(4), 14);
    x.again(0);
    edge.is("THE ROW is empty", x.count(4), 0);
    edge.is("undo()", x.undo(), STATE);
    edge.is("THE TEXT stays", x.count(0), 70);
    edge.is("SEEN stays", x.count(5), 6);
    edge.is("THE SEED stays", x.seed(0), Long.MIN_VALUE);
    for (int i = 0; i < 14; i++) x.pass(1);
    edge.is("14 ACTS more", x.count(4), 14);
  }

  /** A poll, an answer and USED ones that differ are kept; then all becomes otherwise, and is gone back from. */
  private static StillThere elsewhereAndBack(int slot) {
    StillThere x = Histories.polling();
    x.keep(slot);
    x.keep(1 - slot);
    x.tell(0, 2, 1);
    x.tell(1, 0, 7);
    x.demand(0);
    x.demand(1);
    x.turn(0);
    x.pass(30);
    x.turn(1);
    x.pass(3);
    x.again(slot);
    return x;
  }

  private static StillThere withoutRow(int slot) {
    StillThere x = Histories.polling();
    x.keep(slot);
    x.keep(1 - slot);
    x.again(slot);
    return x;
  }

  private static void share() {
    edge.sentence("SHARE. UNKNOWN: setting (0 to 3).");
    for (int setting : new int[] {-1, 4, FAR[0], FAR[1]}) {
      edge.refused("share(" + setting + ",true)", UNKNOWN, x -> x.share(setting, true));
      edge.refused("share(" + setting + ",false)", UNKNOWN, x -> x.share(setting, false));
    }
    shared(Due.linked("B311111"), 0, 28, 1);
    shared(Due.linked("B111131"), 3, 28, 1);
  }

  private static void luck() {
    edge.sentence("LUCK. OUTSIDE: r, x.");
    for (int r : new int[] {-1, 7, 32, FAR[0], FAR[1]}) {
      edge.refused("luck(" + r + ",5,true)", OUTSIDE, x -> x.luck(r, 5, true));
      edge.refused("luck(" + r + ",5,false)", OUTSIDE, x -> x.luck(r, 5, false));
    }
    for (int x : new int[] {-1, 11, FAR[0], FAR[1]}) {
      edge.refused("luck(0," + x + ",true)", OUTSIDE, y -> y.luck(0, x, true));
      edge.refused("luck(6," + x + ",false)", OUTSIDE, y -> y.luck(6, x, false));
    }
    lucky(Due.passed(20), 0, 0, 1, 1);
    lucky(Due.passed(20), 6, 10, 1, 1);
  }

  private static void seed() {
    edge.sentence("THE SEED is v: what it was.");
    StillThere x = new StillThere();
    long was = 0;
    for (long v : new long[] {0, 1, -1, Long.MAX_VALUE, Long.MIN_VALUE, 1L << 32, 0}) {
      edge.is("seed(" + v + ")", x.seed(v), was);
      was = v;
    }
    edge.is("no ACT", x.count(4), 0);
  }

  private static void drawn() {
    edge.sentence("DRAWN. OUTSIDE: m.");
    for (int m : new int[] {0, -1, 100, FAR[0], FAR[1]}) edge.refused("drawn(" + m + ")", OUTSIDE, x -> x.drawn(m));
    StillThere x = Due.passed(20);
    edge.is("drawn(1)", x.drawn(1) >= 0 ? 1 : 0, 1);
    edge.is("drawn(99)", x.drawn(99) >= 0 ? 1 : 0, 1);
  }

  private static void keep() {
    edge.sentence("They are kept: THE CLOCK. UNKNOWN.");
    StillThere x = new StillThere();
    edge.is("keep(0)", x.keep(0), 0);
    edge.is("keep(1)", x.keep(1), 0);
    x.pass(7);
    edge.is("keep(0) over it", x.keep(0), 7);
    edge.is("the other one stays", x.again(1), 0);
    edge.is("the later one", x.again(0), 7);
    edge.is("no ACT", x.count(4), 0);
    // What is done behind it does not reach into what was kept.
    x.pass(4);
    x.turn(0);
    x.undo();
    x.undo();
    x.pass(1);
    edge.is("again(0)", x.again(0), 7);
    edge.is("WAY 0", x.way(0, 0), 1);
  }

  private static void again() {
    edge.sentence("They are as they were kept: THE CLOCK. UNKNOWN; STATE: none were kept.");
    edge.refusedIn("new", "again(0)", STATE, x -> x.again(0));
    edge.refusedIn("new", "again(1)", STATE, x -> x.again(1));
    edge.refusedIn("coming", "again(1), only 0 was kept", STATE, x -> x.again(1));
    edge.refusedIn("polling", "again(0), only 1 was kept", STATE, x -> x.again(0));
    StillThere x = Due.passed(5);
    x.keep(1);
    edge.is("kept at once", x.again(1), 5);
    edge.is("as often as one likes", x.again(1), 5);
    x.pass(1);
    edge.is("and again", x.again(1), 5);
    Due.write(x, "B111111").link();
    edge.is("a LINK: it is gone", x.again(1), STATE);
  }

  private static void count() {
    edge.sentence("0 letters of THE TEXT, 1 THE CLOCK, 2 SENT, 3 UPTIME, 4 ACTS in the row, 5 SEEN. OUTSIDE.");
    for (int what : new int[] {-1, 6, FAR[0], FAR[1]}) edge.refused("count(" + what + ")", OUTSIDE, x -> x.count(what));
    StillThere x = Due.linked("B111111992");
    x.pass(1);
    x.turn(0);
    x.turn(0);
    x.see(1, 0, 0);
    x.see(2, 0, 0);
    int[] want = {10, 21, 10, 11, 3, 2};
    for (int what = 0; what < 6; what++) {
      int w = what;
      edge.is("count(" + what + ")", x.count(what), want[what]);
      edge.leaves("count(" + what + ")", y -> y.count(w));
    }
  }
}
