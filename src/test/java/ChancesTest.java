import java.math.BigInteger;

/** Promises 21 to 27; the stories are told by hand, as in LinkTest. */
public final class ChancesTest {
  private static final BigInteger TIMES = new BigInteger("6364136223846793005");
  private static final BigInteger PLUS = new BigInteger("1442695040888963407");
  private static final Due due = new Due("ChancesTest");

  public static void main(String[] args) {
    share();
    shareRefused();
    luck();
    luckInOrder();
    luckRefused();
    seed();
    drawnTurns();
    drawn();
    keepAndAgain();
    keptAll();
    count();
    due.end();
  }

  private static void fraction(String call, int above, int below, int wantAbove, int wantBelow) {
    due.is(call + ", above", above, wantAbove);
    due.is(call + ", below", below, wantBelow);
  }

  private static void shared(StillThere x, int setting, int above, int below) {
    fraction("21: share(" + setting + ")", x.share(setting, true), x.share(setting, false), above, below);
  }

  private static void share() {
    // END 0 sends at 1, 10, 19 and then at each tick, or each second one if either setting has come: 44 or 23.
    StillThere x = Due.linked("B211121");
    shared(x, 0, 21, 2);
    shared(x, 1, 0, 1);
    shared(x, 2, 0, 1);
    shared(x, 3, 21, 2);
    due.is("21: nothing is changed", x.end(0, 0), 2);
    due.is("21: nothing is USED otherwise", x.end(1, 4), 2);
    due.is("21: no tick", x.count(1), 0);
    // Only one setting that matters: 44 less 16 letters.
    x = Due.linked("B311111");
    shared(x, 0, 28, 1);
    shared(x, 3, 0, 1);
    // And from END 1 just so.
    x = Due.linked("B121211");
    shared(x, 0, 0, 1);
    shared(x, 1, 21, 2);
    shared(x, 2, 21, 2);
    shared(x, 3, 0, 1);
    for (int setting = 0; setting < 4; setting++) shared(Due.passed(20), setting, 0, 1);
    // Less than 0: a TX that has come can bring more letters.
    shared(Due.linked("B21417239"), 0, -1, 2);
    // A POLL would bring letters to ends that are STILL.
    x = Due.linked("B225225999d0d19");
    due.is("21: both STILL", x.letters(60), 0);
    for (int setting = 0; setting < 4; setting++) shared(x, setting, 0, 1);
  }

  private static void shareRefused() {
    StillThere x = Due.linked("B211121");
    for (int setting : new int[] {-1, 4, Integer.MIN_VALUE, Integer.MAX_VALUE}) {
      fraction("21: share(" + setting + ")", x.share(setting, true), x.share(setting, false), -1, -1);
    }
  }

  private static void lucky(StillThere x, int r, int tenths, int above, int below) {
    fraction("22: luck(" + r + "," + tenths + ")", x.luck(r, tenths, true), x.luck(r, tenths, false), above, below);
  }

  private static void luck() {
    // At 28 both have just sent; they do so again 9 and 18 ahead. What is lost at 9 is mended at 37;
    // the third letter, lost alone, is not mended at 40.
    StillThere x = Due.linked("B9919919991");
    lucky(x, 0, 10, 1, 1);
    lucky(x, 1, 10, 1, 1);
    lucky(x, 2, 5, 1, 1);
    lucky(x, 3, 5, 7, 8);
    lucky(x, 3, 4, 107, 125);
    lucky(x, 3, 1, 919, 1000);
    lucky(x, 3, 0, 1, 1);
    lucky(x, 3, 10, 1, 1);
    due.is("22: nothing is changed", x.count(1), 28);
    due.is("22: the letters are on their ways", x.way(0, 1) + x.way(1, 1), 2);
    x.turn(0);
    lucky(x, 6, 0, 0, 1);
    lucky(x, 6, 5, 0, 1);
    lucky(x, 0, 0, 0, 1);
    lucky(new StillThere(), 6, 10, 1, 1);
  }

  private static void luckInOrder() {
    // END 0 endures losses, END 1 does not: of the letters it is END 0's first, third that matter,
    // and END 1's second one if END 1 fell.
    StillThere x = Due.linked("B9919959991");
    lucky(x, 2, 5, 1, 1);
    lucky(x, 3, 5, 3, 4);
    lucky(x, 4, 5, 1, 2);
    lucky(x, 4, 3, 7, 10);
    // The other way round: the second letter, END 1's, lost, END 0 falls; if the third one, by which END 0
    // tells that, is lost too, END 1 hears of it too late.
    x = Due.linked("B9959919991");
    lucky(x, 2, 5, 1, 1);
    lucky(x, 3, 5, 3, 4);
    lucky(x, 3, 10, 0, 1);
    lucky(x, 4, 10, 0, 1);
  }

  private static void luckRefused() {
    StillThere x = new StillThere();
    int[][] outside = {{-1, 0}, {7, 0}, {0, -1}, {0, 11}, {Integer.MIN_VALUE, 0}, {Integer.MAX_VALUE, 0},
        {0, Integer.MIN_VALUE}, {0, Integer.MAX_VALUE}, {32, 5}};
    for (int[] o : outside) lucky(x, o[0], o[1], StillThere.OUTSIDE, StillThere.OUTSIDE);
  }

  private static void seed() {
    StillThere x = new StillThere();
    due.is("23: seed(5)", x.seed(5), 0);
    due.is("23: seed(MIN)", x.seed(Long.MIN_VALUE), 5);
    due.is("23: seed(MAX)", x.seed(Long.MAX_VALUE), Long.MIN_VALUE);
    x.pass(3);
    x.undo();
    due.is("23: seed(0)", x.seed(0), Long.MAX_VALUE);
  }

  /** The seed that becomes the one by which v is drawn. */
  private static long seedFor(long v) {
    BigInteger all = BigInteger.ONE.shiftLeft(64);
    return BigInteger.valueOf(v).shiftLeft(33).subtract(PLUS).multiply(TIMES.modInverse(all)).mod(all).longValue();
  }

  private static void firstDrawn(StillThere x, long v, int uptime) {
    x.seed(seedFor(v));
    due.is("24: drawn(1), v " + v, x.drawn(1), uptime);
    due.is("24: THE SEED behind it", x.seed(0), v << 33);
  }

  private static void drawnTurns() {
    StillThere x = Due.passed(20);
    firstDrawn(x, 0, 0);
    firstDrawn(x, 16, 0);
    firstDrawn(x, 1, 1);
    firstDrawn(x, 15, 1);
    firstDrawn(x, 17, 1);
    firstDrawn(x, (1L << 31) - 1, 1);
    firstDrawn(x, (1L << 31) - 16, 0);
    // A WAY that is CUT is OPEN then, the other one is CUT as well.
    x.turn(0);
    firstDrawn(x, 1, 0);
    firstDrawn(x, 0, 1);
    firstDrawn(x, 32, 1);
    firstDrawn(x, 16, 0);
    x.turn(0);
    x.turn(1);
    firstDrawn(x, 16, 1);
    firstDrawn(x, 48, 1);
    firstDrawn(x, (1L << 31) - 16, 1);
    firstDrawn(x, 0, 0);
    due.is("24: WAYS stay", x.way(0, 0), 1);
    due.is("24: THE CLOCK stays", x.count(1), 20);
    due.is("24: UPTIME stays", x.count(3), 10);
  }

  private static void drawn() {
    StillThere x = new StillThere();
    due.is("24: drawn(99)", x.drawn(99) >= 0 ? 1 : 0, 1);
    long want = 0;
    for (int i = 0; i < 99; i++) {
      want = BigInteger.valueOf(want).multiply(TIMES).add(PLUS).longValue();
    }
    due.is("24: THE SEED behind 99", x.seed(9), want);
    for (int m : new int[] {0, -1, 100, Integer.MIN_VALUE, Integer.MAX_VALUE}) {
      due.is("24: drawn(" + m + ")", x.drawn(m), StillThere.OUTSIDE);
    }
    due.is("24: what is refused leaves THE SEED", x.seed(2), 9);
    // The answers that the shared test tells.
    due.is("24: drawn(60) by 2", x.drawn(60), 9);
    due.is("24: THE SEED behind 60", x.seed(0), -5762430471000249682L);
  }

  private static void keepAndAgain() {
    StillThere x = new StillThere();
    for (int slot : new int[] {-1, 2, Integer.MIN_VALUE, Integer.MAX_VALUE}) {
      due.is("25: keep(" + slot + ")", x.keep(slot), StillThere.UNKNOWN);
      due.is("26: again(" + slot + ")", x.again(slot), StillThere.UNKNOWN);
    }
    due.is("26: again(0) of nothing", x.again(0), StillThere.STATE);
    x.pass(20);
    due.is("25: keep(0)", x.keep(0), 20);
    due.is("25: the row stays", x.count(4), 1);
    due.is("26: again(1) of nothing", x.again(1), StillThere.STATE);
    x.pass(5);
    due.is("25: keep(1)", x.keep(1), 25);
    x.turn(0);
    x.pass(5);
    due.is("26: again(1)", x.again(1), 25);
    due.is("26: the row is empty", x.undo(), StillThere.STATE);
    due.is("26: WAY 0 is OPEN", x.way(0, 0), 1);
    due.is("26: again(0)", x.again(0), 20);
    due.is("26: UPTIME", x.count(3), 10);
    due.is("26: SENT", x.count(2), 8);
    x.pass(3);
    due.is("26: again(0) once more", x.again(0), 20);
    x.pass(1);
    due.is("25: keep(0) over it", x.keep(0), 21);
    due.is("14: undo() behind keep", x.undo(), 0);
    due.is("26: again(0), the later one", x.again(0), 21);
  }

  private static void keptAll() {
    StillThere x = Due.linked("B213324d1w0d09w0999");
    x.tell(0, 1, 7);
    x.tell(1, 0, 8);
    x.poll(0);
    x.pass(1);
    String before = Due.told(x);
    x.seed(5);
    x.see(1, 1, 1);
    x.keep(1);
    x.pass(30);
    x.demand(1);
    x.demand(0);
    x.turn(1);
    x.tell(1, 2, 1);
    x.pass(2);
    due.is("25: something is changed", Due.told(x).equals(before) ? 1 : 0, 0);
    x.seed(6);
    x.again(1);
    due.same("26: all", Due.told(x), before);
    due.is("26: THE SEED stays", x.seed(0), 6);
    due.is("26: SEEN stays", x.count(5), 1);
    due.is("26: THE TEXT stays", x.count(0), 19);
    // The letters on the ways and the answer that is owed are kept as well.
    StillThere y = Due.linked("B9919919994");
    y.poll(0);
    y.pass(1);
    y.keep(0);
    y.pass(9);
    y.again(0);
    y.pass(2);
    due.is("26: the poll is answered", y.end(0, 6), 0);
    due.is("26: at its time", y.end(0, 8), 0);
  }

  private static void count() {
    StillThere x = Due.linked("B111111992");
    x.pass(1);
    x.turn(0);
    x.turn(0);
    x.see(1, 0, 0);
    x.see(2, 0, 0);
    int[] want = {10, 21, 10, 11, 3, 2};
    for (int what = 0; what < 6; what++) due.is("27: count(" + what + ")", x.count(what), want[what]);
    for (int what : new int[] {-1, 6, Integer.MIN_VALUE, Integer.MAX_VALUE}) {
      due.is("27: count(" + what + ")", x.count(what), StillThere.OUTSIDE);
    }
  }
}
