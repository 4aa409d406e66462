import java.util.function.Supplier;
import java.util.function.ToLongFunction;

/**
 * The sentences on the text, the link and the acts (Terms 1, promises 1 to 5 and 9 to 14) that name
 * an edge, in the document's order.
 */
public final class EdgesOfTextTest {
  private static final int OUTSIDE = StillThere.OUTSIDE, STATE = StillThere.STATE, FULL = StillThere.FULL,
      NONE = StillThere.NONE;
  private static final int[] FAR = {Integer.MIN_VALUE, Integer.MAX_VALUE};
  private static final String HEAD = "B111111";
  private static final Edge edge = new Edge("EdgesOfTextTest");

  public static void main(String[] args) {
    longestText();
    headOfALink();
    events();
    noBlanks();
    faultWhateverCameBehind();
    faultLengthSetAside();
    faultAtItsEnd();
    faultNone();
    actsOfAllKinds();
    longestRow();
    lastIsUndone();
    refusedIsNoAct();
    newObject();
    write();
    wipe();
    fault();
    link();
    linkEmptiesAndLeaves();
    linkRefused();
    linkFromAnything();
    pass();
    tell();
    demandAndTurn();
    poll();
    pollRefused();
    undo();
    edge.end();
  }

  private static void faultOf(String text, int place) {
    edge.is("fault() of " + text, Due.write(new StillThere(), text).fault(), place);
  }

  private static void longestText() {
    edge.sentence("THE TEXT is letters (never more than 70).");
    StillThere x = new StillThere();
    for (int i = 1; i <= 69; i++) x.write(i);
    edge.is("the 70th letter", x.write('7'), 70);
    edge.is("the 71st letter", x.write('7'), FULL);
    edge.is("count(0)", x.count(0), 70);
    edge.refusedIn("full", "write('1')", FULL, y -> y.write('1'));
    edge.refusedIn("full", "write(0)", FULL, y -> y.write(0));
    x.wipe();
    edge.is("a letter behind wipe()", x.write('B'), 1);
  }

  private static void headOfALink() {
    edge.sentence("A LINK is a TEXT: B, of END 0, then of END 1 TX, RX (1 to 9), MULT (1 to 5), a figure each");
    faultOf("A111111", 0);
    faultOf("C111111", 0);
    faultOf("b111111", 0);
    faultOf(HEAD, NONE);
    int[] most = {9, 9, 5, 9, 9, 5};
    for (int i = 0; i < 6; i++) {
      String ahead = HEAD.substring(0, 1 + i);
      String behind = HEAD.substring(2 + i);
      faultOf(ahead + '0' + behind, 1 + i);
      faultOf(ahead + '1' + behind, NONE);
      faultOf(ahead + most[i] + behind, NONE);
      faultOf(ahead + (char) ('1' + most[i]) + behind, 1 + i);
      StillThere x = Due.linked(ahead + most[i] + behind);
      for (int other = 0; other < 6; other++) {
        edge.is(ahead + most[i] + behind + ", SETTING " + other, x.end(other / 3, other % 3), other == i ? most[i] : 1);
      }
    }
  }

  private static void events() {
    edge.sentence("EVENTS, none or more: a figure 1 to 9 (so many TICKS); d and an END (0, 1) (DEMAND TURNED); w and "
        + "a WAY (0, 1) (TURNED).");
    edge.is("none", Due.linked(HEAD).count(1), 0);
    faultOf(HEAD + "0", 7);
    faultOf(HEAD + "1", NONE);
    faultOf(HEAD + "9", NONE);
    faultOf(HEAD + ":", 7);
    for (int ticks = 1; ticks <= 9; ticks++) edge.is(ticks + " TICKS", Due.linked(HEAD + ticks).count(1), ticks);
    edge.is("more", Due.linked(HEAD + "91").count(1), 10);
    for (char kind : new char[] {'d', 'w'}) {
      faultOf(HEAD + (char) (kind - 1) + "0", 7);
      faultOf(HEAD + (char) (kind + 1) + "0", 7);
      faultOf(HEAD + (char) (kind - 32) + "0", 7);
      faultOf(HEAD + kind + "/", 8);
      faultOf(HEAD + kind + "0", NONE);
      faultOf(HEAD + kind + "1", NONE);
      faultOf(HEAD + kind + "2", 8);
      faultOf(HEAD + kind + "0" + "0", 9);
      faultOf(HEAD + kind + "1" + "1", NONE);
    }
    for (int i = 0; i < 2; i++) {
      StillThere x = Due.linked(HEAD + "d" + i + "w" + i);
      edge.is("d" + i, x.end(i, 7), 1);
      edge.is("the other END", x.end(1 - i, 7), 0);
      edge.is("w" + i, x.way(i, 0), 0);
      edge.is("the other WAY", x.way(1 - i, 0), 1);
      x = Due.linked(HEAD + "d" + i + "d" + i + "w" + i + "w" + i);
      edge.is("d" + i + " twice", x.end(i, 7), 0);
      edge.is("w" + i + " twice", x.way(i, 0), 1);
    }
  }

  private static void noBlanks() {
    edge.sentence("(Without blanks.)");
    for (int i = 0; i <= 7; i++) faultOf(HEAD.substring(0, i) + " " + HEAD.substring(i), i);
    faultOf(HEAD + "1 1", 8);
    faultOf(HEAD + "d 0", 8);
    faultOf(HEAD + "d0 ", 9);
  }

  private static void faultWhateverCameBehind() {
    edge.sentence("FAULT: the place of the first letter by which THE TEXT can be no LINK, whatever came behind it");
    faultOf("x", 0);
    faultOf("x" + HEAD, 0);
    faultOf("B1x1111", 2);
    faultOf("B116116", 3);
    faultOf(HEAD + "0x", 7);
    faultOf(HEAD + "dx0", 8);
    faultOf(HEAD + "5B111111", 8);
    for (int letter = 0; letter < 256; letter++) {
      StillThere x = Due.write(new StillThere(), HEAD);
      x.write(letter);
      boolean isTicks = letter >= '1' && letter <= '9';
      boolean isHalf = letter == 'd' || letter == 'w';
      edge.is("fault() with letter " + letter, x.fault(), isTicks ? NONE : isHalf ? 8 : 7);
    }
  }

  private static void faultLengthSetAside() {
    edge.sentence("(its length set aside)");
    faultOf(HEAD + "1".repeat(62) + "d", 70);
    faultOf(HEAD + "1".repeat(62) + "w", 70);
    faultOf(HEAD + "1".repeat(62) + "0", 69);
    faultOf(HEAD + "1".repeat(61) + "d1", NONE);
    faultOf(HEAD + "1".repeat(63), NONE);
  }

  private static void faultAtItsEnd() {
    edge.sentence("its length, if it is only not at its end; NONE: none.");
    faultOf("", 0);
    for (int i = 1; i < 7; i++) faultOf(HEAD.substring(0, i), i);
    faultOf(HEAD + "d", 8);
    faultOf(HEAD + "w", 8);
    faultOf(HEAD + "9d1w", 11);
  }

  private static void faultNone() {
    edge.sentence("FAULT; NONE.");
    faultOf(HEAD, NONE);
    faultOf("B995995", NONE);
    faultOf(HEAD + "d0d1w0w1123456789", NONE);
  }

  private static void actsOfAllKinds() {
    edge.sentence("ACTS (TICKS passed, 1 to 30; TOLD; TURNED, both kinds; POLLED) are a row");
    StillThere x = Due.linked(HEAD + "992");
    int acts = 0;
    edge.is("pass(1)", x.pass(1), 21);
    edge.is("ACTS", x.count(4), ++acts);
    edge.is("pass(30)", x.pass(30), 51);
    edge.is("ACTS", x.count(4), ++acts);
    edge.is("tell(0,2,5)", x.tell(0, 2, 5), 1);
    edge.is("ACTS", x.count(4), ++acts);
    edge.is("tell(0,2,5) of what it is", x.tell(0, 2, 5), 5);
    edge.is("ACTS", x.count(4), ++acts);
    edge.is("demand(1)", x.demand(1), 1);
    edge.is("ACTS", x.count(4), ++acts);
    edge.is("turn(1)", x.turn(1), 0);
    edge.is("ACTS", x.count(4), ++acts);
    edge.is("poll(0)", x.poll(0), 1);
    edge.is("ACTS", x.count(4), ++acts);
  }

  private static void longestRow() {
    edge.sentence("(never more than 14; if it has 14, the first one is forgotten ahead of the next)");
    StillThere x = new StillThere();
    for (int i = 1; i <= 13; i++) x.pass(1);
    edge.is("13 ACTS", x.count(4), 13);
    x.pass(1);
    edge.is("14 ACTS", x.count(4), 14);
    x.pass(1);
    edge.is("15 ACTS", x.count(4), 14);
    for (int left = 13; left >= 0; left--) edge.is("undo()", x.undo(), left);
    edge.is("undo() of the first", x.undo(), STATE);
    edge.is("THE CLOCK behind the first", x.count(1), 1);
    // The row may come to its end many times over, by acts of all kinds.
    for (int i = 0; i < 45; i++) {
      if (i % 3 == 0) x.turn(0);
      else if (i % 3 == 1) x.demand(1);
      else x.tell(0, 0, 1 + i % 9);
      edge.is("ACTS, act " + i, x.count(4), Math.min(i + 1, 14));
    }
    int[] tx = {9, 6, 6, 6, 3, 3, 3, 9, 9, 9, 6, 6, 6, 3};
    for (int i = 0; i < 14; i++) {
      edge.is("TX ahead of undo " + i, x.end(0, 0), tx[i]);
      x.undo();
    }
    edge.is("none is left", x.undo(), STATE);
  }

  private static void lastIsUndone() {
    edge.sentence("the last one can be undone. Each that is not refused is an ACT.");
    Supplier<StillThere> made = () -> Due.linked("B234325d1999");
    undone("pass(1)", made, x -> x.pass(1));
    undone("pass(30)", made, x -> x.pass(30));
    for (int end = 0; end < 2; end++) {
      int e = end;
      for (int what = 0; what < 3; what++) {
        int w = what;
        undone("tell(" + e + "," + w + ",1)", made, x -> x.tell(e, w, 1));
        undone("tell(" + e + "," + w + ",5)", made, x -> x.tell(e, w, 5));
      }
      undone("demand(" + e + ")", made, x -> x.demand(e));
      undone("turn(" + e + ")", made, x -> x.turn(e));
      undone("poll(" + e + ")", made, x -> x.poll(e));
    }
    undone("pass(1) with a poll and an answer on the ways", Histories::polling, x -> x.pass(1));
  }

  private static void undone(String act, Supplier<StillThere> made, ToLongFunction<StillThere> acting) {
    Supplier<StillThere> back = () -> {
      StillThere x = made.get();
      acting.applyAsLong(x);
      x.undo();
      return x;
    };
    edge.same("undo() of " + act, back, made);
  }

  private static void refusedIsNoAct() {
    edge.sentence("What is refused changes nothing.");
    StillThere x = Due.passed(20);
    x.pass(0);
    x.pass(31);
    x.tell(0, 0, 0);
    x.tell(0, 3, 1);
    x.tell(2, 0, 1);
    x.demand(2);
    x.turn(2);
    x.poll(2);
    x.link();
    x.again(0);
    edge.is("ACTS", x.count(4), 1);
    x.poll(0);
    x.poll(0);
    edge.is("ACTS with a poll", x.count(4), 2);
    edge.is("undo()", x.undo(), 1);
    edge.is("it does not POLL", x.end(0, 6), 0);
  }

  private static void newObject() {
    edge.sentence("Both down, all settings 1.");
    StillThere x = new StillThere();
    for (int e = 0; e < 2; e++) {
      edge.is("MOOD of " + e, x.end(e, 5), 0);
      for (int what = 0; what < 3; what++) edge.is("SETTING " + what + " of " + e, x.end(e, what), 1);
    }
    edge.is("letters of THE TEXT", x.count(0), 0);
    edge.is("ACTS", x.count(4), 0);
    edge.is("SEEN", x.count(5), 0);
    // Two objects have nothing to do with each other.
    StillThere y = Histories.full();
    edge.is("another object", x.count(0) + x.count(1) + x.count(4) + x.count(5), 0);
    edge.is("and the other way round", y.count(0), 70);
  }

  private static void write() {
    edge.sentence("A letter (0 to 255) comes behind THE TEXT: how long it is. OUTSIDE; FULL: there are 70.");
    for (int letter : new int[] {-1, 256, -256, 66 + 256, FAR[0], FAR[1]}) {
      edge.refused("write(" + letter + ")", OUTSIDE, x -> x.write(letter));
    }
    StillThere x = new StillThere();
    edge.is("write(0)", x.write(0), 1);
    edge.is("write(255)", x.write(255), 2);
    edge.refusedIn("full", "write(255)", FULL, y -> y.write(255));
    edge.is("no ACT", x.count(4), 0);
  }

  private static void wipe() {
    edge.sentence("THE TEXT is empty: how long it was.");
    StillThere x = new StillThere();
    edge.is("of an empty one", x.wipe(), 0);
    x.write('B');
    edge.is("of one letter", x.wipe(), 1);
    edge.is("it is empty", x.fault(), 0);
    edge.is("of an empty one again", x.wipe(), 0);
    x = Histories.full();
    int acts = x.count(4);
    edge.is("of a full one", x.wipe(), 70);
    edge.is("count(0)", x.count(0), 0);
    edge.is("ACTS stay", x.count(4), acts);
    edge.is("SEEN stays", x.count(5), 6);
    edge.is("what was kept stays", x.again(0) > 0 ? 1 : 0, 1);
    // A shorter text behind a longer one: nothing of the longer one is left.
    Due.write(x, HEAD + "999");
    Due.write(x, HEAD);
    edge.is("link() of the shorter one", x.link(), 0);
  }

  private static void fault() {
    edge.sentence("`int fault()`: FAULT; NONE.");
    edge.leaves("fault()", StillThere::fault);
  }

  private static void link() {
    edge.sentence("THE TEXT (that stays as it is) is THE LINK, all its EVENTS done");
    StillThere x = Due.write(new StillThere(), HEAD);
    edge.is("no EVENT", x.link(), 0);
    edge.is("THE TEXT stays", x.count(0), 7);
    edge.is("link() again", x.link(), 0);
    x.write('9');
    edge.is("a letter more", x.link(), 9);
    edge.is("and again: from 0 on", x.link(), 9);
    Due.write(x, HEAD + "9".repeat(63));
    edge.is("70 letters", x.link(), 567);
    edge.is("UPTIME", x.count(3), 557);
    edge.is("SENT", x.count(2), 8 + 2 * 547);
    Due.write(x, HEAD + "9".repeat(61) + "d1");
    edge.is("an EVENT of two letters at its end", x.link(), 549);
    edge.is("it is done", x.end(1, 7), 1);
  }

  private static void linkEmptiesAndLeaves() {
    edge.sentence("(THE ROW of ACTS is empty, what was kept is gone; SEEN, THE SEED stay): THE CLOCK.");
    StillThere x = Histories.full();
    edge.is("link()", x.link(), 487);
    edge.is("ACTS", x.count(4), 0);
    edge.is("undo()", x.undo(), STATE);
    edge.is("slot 0", x.again(0), STATE);
    edge.is("slot 1", x.again(1), STATE);
    edge.is("SEEN", x.count(5), 6);
    edge.is("THE SEED", x.seed(0), Long.MIN_VALUE);
    x.pass(1);
    edge.is("an ACT behind it", x.undo(), 0);
    edge.is("none ahead of it", x.undo(), STATE);
  }

  private static void linkRefused() {
    edge.sentence("STATE: a FAULT.");
    edge.refusedIn("new", "link() of an empty text", STATE, StillThere::link);
    edge.refusedIn("coming", "link() of half a head", STATE, StillThere::link);
    edge.refusedIn("cut", "link() of half an event", STATE, StillThere::link);
    Supplier<StillThere> wrong = () -> Due.write(Histories.polling(), HEAD + "90");
    edge.refusedBy("link() of a letter that is wrong", STATE, wrong, StillThere::link);
    Supplier<StillThere> cutOff = () -> Due.write(Histories.full(), HEAD + "9".repeat(62) + "w");
    edge.refusedBy("link() of 70 letters with half an event", STATE, cutOff, StillThere::link);
  }

  /** What was ahead of a link is all gone: silence, polls, letters on ways, demand, cut ways. */
  private static void linkFromAnything() {
    edge.sentence("`int link()`: THE TEXT (that stays as it is) is THE LINK");
    for (String text : new String[] {HEAD, "B235914", "B111111992", "B213422d1w09w0"}) {
      edge.same(text + " behind polls", () -> linked(Due.linked("B235324d0999"), text, true), () -> Due.linked(text));
      edge.same(text + " behind cuts", () -> linked(Due.linked("B121212d1w0w17"), text, false), () -> Due.linked(text));
      edge.same(text + " behind 5 ticks", () -> linked(Due.passed(5), text, false), () -> Due.linked(text));
    }
  }

  private static StillThere linked(StillThere x, String text, boolean polls) {
    if (polls) {
      x.tell(1, 0, 9);
      x.poll(0);
      x.pass(2);
    }
    Due.write(x, text);
    x.link();
    return x;
  }

  private static void pass() {
    edge.sentence("k TICKS pass: THE CLOCK. OUTSIDE: k (1 to 30).");
    for (int k : new int[] {0, -1, 31, FAR[0], FAR[1]}) {
      edge.refused("pass(" + k + ")", OUTSIDE, x -> x.pass(k));
    }
    for (int k : new int[] {1, 2, 29, 30}) {
      StillThere x = new StillThere();
      edge.is("pass(" + k + ")", x.pass(k), k);
      edge.is("count(1)", x.count(1), k);
      edge.same("pass(" + k + ") is as many of 1", () -> keptAlone(Due.passed(k)), () -> {
        StillThere y = new StillThere();
        for (int i = 0; i < k; i++) y.pass(1);
        return keptAlone(y);
      });
    }
  }

  /** Without the row of acts. */
  private static StillThere keptAlone(StillThere x) {
    x.keep(0);
    x.again(0);
    return x;
  }

  private static void tell() {
    edge.sentence("TOLD: TX (what = 0), RX (1), MULT (2) of an END: what it was. UNKNOWN; OUTSIDE: what, v.");
    for (int what : new int[] {-1, 3, FAR[0], FAR[1]}) {
      edge.refused("tell(0," + what + ",1)", OUTSIDE, x -> x.tell(0, what, 1));
      edge.refused("tell(1," + what + ",1)", OUTSIDE, x -> x.tell(1, what, 1));
    }
    edge.refused("tell(0,2,6)", OUTSIDE, x -> x.tell(0, 2, 6));
    edge.refused("tell(0,2,9)", OUTSIDE, x -> x.tell(0, 2, 9));
    StillThere x = Due.linked("B234565");
    int[] was = {2, 3, 4, 5, 6, 5};
    for (int i = 0; i < 6; i++) edge.is("tell(" + i / 3 + "," + i % 3 + ",1)", x.tell(i / 3, i % 3, 1), was[i]);
    for (int i = 0; i < 6; i++) edge.is("again", x.tell(i / 3, i % 3, 1), 1);
  }

  private static void demandAndTurn() {
    edge.sentence("DEMAND TURNED: 1 if it wants it then, 0. UNKNOWN.");
    StillThere x = new StillThere();
    for (int i = 0; i < 2; i++) {
      edge.is("demand(" + i + ")", x.demand(i), 1);
      edge.is("demand(" + i + ") again", x.demand(i), 0);
      edge.is("demand(" + i + ") once more", x.demand(i), 1);
    }
    edge.sentence("A WAY TURNED: 1 if it is OPEN then, 0. UNKNOWN.");
    for (int i = 0; i < 2; i++) {
      edge.is("turn(" + i + ")", x.turn(i), 0);
      edge.is("turn(" + i + ") again", x.turn(i), 1);
      edge.is("turn(" + i + ") once more", x.turn(i), 0);
    }
  }

  private static void poll() {
    edge.sentence("POLLED: its LIMIT.");
    for (int mult = 1; mult <= 5; mult++) {
      StillThere x = Due.linked("B98197" + mult + "92");
      edge.is("poll(0) of one that KNOWS COMING", x.poll(0), 9 * mult);
      x = Due.linked("B28137" + mult + "992");
      edge.is("poll(0) of one that KNOWS UP", x.poll(0), 8 * mult);
      edge.is("it is LIMIT", x.end(0, 11), 8 * mult);
    }
  }

  private static void pollRefused() {
    edge.sentence("UNKNOWN; STATE: it is not UP, or POLLS already.");
    for (int end = 0; end < 2; end++) {
      int e = end;
      edge.refusedBy("DOWN at first", STATE, StillThere::new, x -> x.poll(e));
      edge.refusedBy("DOWN at 1", STATE, () -> Due.passed(1), x -> x.poll(e));
      edge.refusedBy("COMING at 2", STATE, () -> Due.passed(2), x -> x.poll(e));
      edge.refusedBy("COMING at 10", STATE, () -> Due.passed(10), x -> x.poll(e));
      edge.is("UP at 11", Due.passed(11).poll(e), 9);
      edge.refusedBy("it POLLS already", STATE, () -> polled(Due.passed(11), e), x -> x.poll(e));
      edge.refusedBy("it was told TX", STATE, () -> told(Due.passed(20), e, 0), x -> x.poll(e));
      edge.refusedBy("it was told RX", STATE, () -> told(Due.passed(20), e, 1), x -> x.poll(e));
      edge.is("it was told MULT", told(Due.passed(20), e, 2).poll(e), 1);
      edge.is("the other one POLLS", polled(Due.passed(20), 1 - e).poll(e), 1);
      StillThere x = polled(Due.passed(20), e);
      x.pass(2);
      edge.is("no answer came", x.poll(e), STATE);
      x.pass(1);
      edge.is("the answer came", x.poll(e), 1);
    }
  }

  private static StillThere polled(StillThere x, int end) {
    x.poll(end);
    return x;
  }

  private static StillThere told(StillThere x, int end, int what) {
    x.tell(end, what, 5);
    return x;
  }

  private static void undo() {
    edge.sentence("The last ACT is undone: how many are left. STATE: there is none.");
    edge.refusedIn("new", "undo()", STATE, StillThere::undo);
    edge.refusedBy("undo() behind link()", STATE, () -> Due.linked(HEAD + "992"), StillThere::undo);
    edge.refusedBy("undo() behind again()", STATE, () -> keptAlone(Histories.polling()), StillThere::undo);
    edge.refusedBy("undo() of one undone", STATE, () -> {
      StillThere x = Due.passed(20);
      x.undo();
      return x;
    }, StillThere::undo);
    StillThere x = Due.passed(20);
    edge.is("one", x.undo(), 0);
    edge.is("none", x.undo(), STATE);
    x.pass(3);
    x.turn(1);
    edge.is("two", x.undo(), 1);
    edge.is("the first one stays", x.count(1), 3);
    x.demand(0);
    edge.is("another behind it", x.count(4), 2);
    edge.is("undo()", x.undo(), 1);
    edge.is("undo() again", x.undo(), 0);
    edge.is("THE CLOCK", x.count(1), 0);
    // Not what is no ACT: the text, what is seen, the seed, what was kept.
    x.pass(5);
    x.write('B');
    x.see(1, 0, 1);
    x.seed(9);
    x.keep(0);
    edge.is("undo() behind them", x.undo(), 0);
    edge.is("THE TEXT stays", x.count(0), 1);
    edge.is("SEEN stays", x.count(5), 1);
    edge.is("THE SEED stays", x.seed(0), 9);
    edge.is("what was kept stays", x.again(0), 5);
  }
}
