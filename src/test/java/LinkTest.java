/**
 * Promises 1 to 8. Many answers come from one story, told by hand: all settings 1, no event. Both
 * ends send DOWN at 1, are COMING at 2, send at 10, are UP at 11, send at 19, know UP at 20, and
 * from 20 on send at each tick: SENT is 8 at 20, UPTIME is the clock less 10.
 */
public final class LinkTest {
  private static final int[] WILD = {Integer.MIN_VALUE, -1, 2, 3, Integer.MAX_VALUE};
  private static final Due due = new Due("LinkTest");

  public static void main(String[] args) {
    newObject();
    write();
    wipe();
    fault();
    link();
    linkFromAnything();
    linkRefused();
    end();
    moods();
    noticedAndEndured();
    known();
    way();
    due.end();
  }

  private static void newObject() {
    StillThere x = new StillThere();
    int[] plain = {1, 1, 1, 1, 1, 0, 0, 0, 0, 0, 9, 9, 0, StillThere.NONE};
    int[] knows = {0, 1, 1, 1, 0};
    for (int e = 0; e < 2; e++) {
      for (int what = 0; what < 14; what++) due.is("1: end(" + e + "," + what + ")", x.end(e, what), plain[what]);
      for (int what = 0; what < 5; what++) due.is("1: known(" + e + "," + what + ")", x.known(e, what), knows[what]);
      due.is("1: way(" + e + ",0)", x.way(e, 0), 1);
      due.is("1: way(" + e + ",1)", x.way(e, 1), 0);
      due.is("1: again(" + e + ")", x.again(e), StillThere.STATE);
    }
    for (int what = 0; what < 6; what++) due.is("1: count(" + what + ")", x.count(what), 0);
    due.is("1: undo()", x.undo(), StillThere.STATE);
    due.is("1: seed(7)", x.seed(7), 0);
    due.is("1: which()", x.which(), 1022);
  }

  private static void write() {
    StillThere x = new StillThere();
    for (int letter : new int[] {-1, 256, Integer.MIN_VALUE, Integer.MAX_VALUE}) {
      due.is("2: write(" + letter + ")", x.write(letter), StillThere.OUTSIDE);
    }
    due.is("2: write(0)", x.write(0), 1);
    due.is("2: write(255)", x.write(255), 2);
    for (int i = 3; i <= 70; i++) due.is("2: write, letter " + i, x.write('1'), i);
    due.is("2: write, letter 71", x.write('1'), StillThere.FULL);
    due.is("2: write(256) when full", x.write(256), StillThere.OUTSIDE);
    due.is("2: count(0)", x.count(0), 70);
  }

  private static void wipe() {
    StillThere x = new StillThere();
    due.is("3: wipe() of nothing", x.wipe(), 0);
    Due.write(x, "B111111");
    x.link();
    x.pass(3);
    due.is("3: wipe()", x.wipe(), 7);
    due.is("3: wipe() again", x.wipe(), 0);
    due.is("3: the clock stays", x.count(1), 3);
    due.is("3: write behind it", x.write('B'), 1);
  }

  private static void fault(String text, int place) {
    due.is("4: fault() of " + text, Due.write(new StillThere(), text).fault(), place);
  }

  private static void fault() {
    fault("", 0);
    fault("b", 0);
    fault(" B111111", 0);
    fault("B", 1);
    for (int i = 1; i < 7; i++) {
      fault("B111111".substring(0, i), i);
      fault("B111111".substring(0, i) + "0", i);
      fault("B111111".substring(0, i) + ":", i);
      fault("B111111".substring(0, i) + "9", i % 3 == 0 ? i : i + 1);
      fault("B111111".substring(0, i) + "0" + "111111".substring(i), i);
    }
    fault("B115", 4);
    fault("B116", 3);
    fault("B995995", StillThere.NONE);
    fault("B995996", 6);
    fault("B99599/", 6);
    String link = "B111111";
    fault(link + "19", StillThere.NONE);
    fault(link + "0", 7);
    fault(link + "d", 8);
    fault(link + "w", 8);
    fault(link + "d0d1w0w1", StillThere.NONE);
    fault(link + "d2", 8);
    fault(link + "w2", 8);
    fault(link + "dd", 8);
    fault(link + "d1w", 10);
    fault(link + "D1", 7);
    fault(link + " 1", 7);
    fault(link + "1B", 8);
    fault(link + "5x0", 8);
    fault("x" + link + "x", 0);
    fault(link + "1".repeat(63), StillThere.NONE);
    fault(link + "1".repeat(62) + "d", 70);
    fault(link + "1".repeat(62) + "0", 69);
    StillThere x = Due.write(new StillThere(), link);
    x.write(255);
    due.is("4: fault() of letter 255", x.fault(), 7);
  }

  private static void link() {
    StillThere x = Due.write(new StillThere(), "B235914");
    due.is("5: link()", x.link(), 0);
    int[][] settings = {{2, 3, 5, 2, 3}, {9, 1, 4, 9, 1}};
    for (int e = 0; e < 2; e++) {
      for (int what = 0; what < 5; what++) due.is("5: end(" + e + "," + what + ")", x.end(e, what), settings[e][what]);
      due.is("5: no poll of " + e, x.end(e, 6), 0);
    }
    due.is("5: the text stays", x.count(0), 7);

    Due.write(x, "B11111192");
    due.is("5: link() with 11 ticks", x.link(), 11);
    due.is("5: END 0 is UP", x.end(0, 5), 2);
    due.is("5: SENT", x.count(2), 4);
    due.is("5: UPTIME", x.count(3), 1);
    due.is("5: events are no acts", x.count(4), 0);

    // END 0 hears nothing at all; END 1 hears DOWN and DEMAND at 2.
    Due.write(x, "B111111d0w19");
    due.is("5: link() with d0w1", x.link(), 9);
    due.is("5: END 0 wants DEMAND", x.end(0, 7), 1);
    due.is("5: END 1 does not", x.end(1, 7), 0);
    due.is("5: END 1 knows DEMAND", x.known(1, 4), 1);
    due.is("5: WAY 1 is CUT", x.way(1, 0), 0);
    due.is("5: WAY 0 is OPEN", x.way(0, 0), 1);
    due.is("5: END 0 is DOWN", x.end(0, 5), 0);
    due.is("5: SILENCE of END 0", x.end(0, 8), 9);
    due.is("5: END 1 is COMING", x.end(1, 5), 1);
    due.is("5: SENT anew", x.count(2), 2);

    Due.write(x, "B111111d0d0w1w1d1");
    x.link();
    due.is("5: turned twice", x.end(0, 7), 0);
    due.is("5: d1", x.end(1, 7), 1);
    due.is("5: w1w1", x.way(1, 0), 1);
    Due.write(x, "B111111" + "9".repeat(63));
    due.is("5: the longest link", x.link(), 567);

    x.seed(77);
    x.see(3, 0, 2);
    x.keep(0);
    x.keep(1);
    x.pass(1);
    due.is("5: link() anew", x.link(), 567);
    due.is("5: the row is empty", x.undo(), StillThere.STATE);
    due.is("5: what was kept in 0 is gone", x.again(0), StillThere.STATE);
    due.is("5: what was kept in 1 is gone", x.again(1), StillThere.STATE);
    due.is("5: SEEN stays", x.count(5), 1);
    due.is("5: THE SEED stays", x.seed(0), 77);
  }

  private static void linkFromAnything() {
    StillThere x = Due.linked("B345212d0999");
    x.tell(0, 0, 9);
    x.poll(1);
    x.demand(1);
    x.pass(2);
    x.turn(0);
    for (String text : new String[] {"B111111", "B111111992", "B213422d1w09w0"}) {
      Due.write(x, text).link();
      due.same("5: " + text + " behind another one", Due.told(x), Due.told(Due.linked(text)));
      x.tell(1, 1, 9);
      x.turn(1);
    }
  }

  private static void linkRefused() {
    StillThere x = Due.passed(20);
    x.keep(0);
    x.pass(1);
    String before = Due.told(x);
    due.is("5: link() of nothing", x.link(), StillThere.STATE);
    Due.write(x, "B111111d");
    due.is("5: link() of half an event", x.link(), StillThere.STATE);
    due.same("5: all", Due.told(x), before);
    due.is("5: acts stay", x.count(4), 2);
    due.is("5: what was kept stays", x.again(0), 20);
  }

  private static void end() {
    StillThere x = Due.passed(20);
    int[] plain = {1, 1, 1, 1, 1, 2, 0, 0, 0, 1, 1, 1, 1, 0};
    for (int e = 0; e < 2; e++) {
      for (int what = 0; what < 14; what++) due.is("6: end(" + e + "," + what + ")", x.end(e, what), plain[what]);
    }
    for (int e : WILD) {
      due.is("6: end(" + e + ",0)", x.end(e, 0), StillThere.UNKNOWN);
      due.is("6: end(" + e + ",14)", x.end(e, 14), StillThere.UNKNOWN);
    }
    for (int what : new int[] {-1, 14, Integer.MIN_VALUE, Integer.MAX_VALUE}) {
      due.is("6: end(0," + what + ")", x.end(0, what), StillThere.OUTSIDE);
    }
    // PACE is the greater of one's own TX and the other's RX, LIMIT counts the other's MULT.
    x = Due.linked("B213422999");
    due.is("6: PACE of END 0", x.end(0, 10), 2);
    due.is("6: PACE of END 1", x.end(1, 10), 4);
    due.is("6: LIMIT of END 0", x.end(0, 11), 2 * 4);
    due.is("6: LIMIT of END 1", x.end(1, 11), 3 * 2);
    x = Due.linked("B213422");
    due.is("6: LIMIT of END 0 that knows nothing", x.end(0, 11), 9);
    x.pass(2);
    due.is("6: LIMIT of END 0 that knows MULT 2", x.end(0, 11), 18);
    due.is("6: PACE of a COMING END", x.end(0, 10), 9);
  }

  private static void moods() {
    StillThere x = new StillThere();
    int[] at = {1, 2, 9, 10, 11, 19, 20};
    int[] mood = {0, 1, 1, 1, 2, 2, 2};
    int[] silence = {1, 0, 7, 8, 0, 8, 0};
    int[] next = {9, 8, 1, 9, 8, 1, 1};
    int[] sent = {2, 2, 2, 4, 4, 6, 8};
    for (int i = 0; i < at.length; i++) {
      x.pass(at[i] - x.count(1));
      for (int e = 0; e < 2; e++) {
        due.is("6: MOOD at " + at[i], x.end(e, 5), mood[i]);
        due.is("6: SILENCE at " + at[i], x.end(e, 8), silence[i]);
        due.is("6: NEXT at " + at[i], x.end(e, 9), next[i]);
      }
      due.is("6: SENT at " + at[i], x.count(2), sent[i]);
    }
    // A DOWN end that hears UP stays DOWN; a COMING one that hears DOWN stays COMING.
    x = Due.linked("B111111w09");
    due.is("6: END 0 is COMING, END 1 hears nothing", x.end(0, 5), 1);
    due.is("6: END 1 is DOWN", x.end(1, 5), 0);
    x.pass(2);
    due.is("6: END 0 hears DOWN again", x.end(0, 5), 1);
    due.is("6: SILENCE of END 0", x.end(0, 8), 0);
    x = Due.passed(20);
    x.turn(0);
    x.pass(1);
    x.turn(0);
    x.pass(1);
    due.is("6: END 1 fell, and hears UP", x.end(1, 5), 0);
    due.is("6: END 1 knows UP", x.known(1, 0), 2);
    due.is("6: END 0 hears DOWN and falls", x.end(0, 5), 0);
    x.pass(1);
    due.is("6: END 1 hears DOWN", x.end(1, 5), 1);
    // A COMING end falls when the other one is silent for LIMIT.
    x = Due.linked("B1111111w09");
    due.is("6: COMING at 10", x.end(0, 5), 1);
    x = Due.linked("B1111112w19");
    due.is("6: END 0 heard nothing since 2: SILENCE 9", x.end(0, 8), 9);
    due.is("6: and falls", x.end(0, 5), 0);
  }

  private static void noticedAndEndured() {
    StillThere x = Due.passed(11);
    due.is("6: NOTICED with LIMIT 9", x.end(0, 12), 9);
    due.is("6: ENDURED with LIMIT 9", x.end(0, 13), 0);
    x = Due.passed(2);
    due.is("6: NOTICED by a COMING END", x.end(1, 12), 9);
    // Both send at 19, 28, ..; at 28 SILENCE is 8, letters are on the ways.
    x = Due.linked("B9919919991");
    due.is("6: NOTICED, the letter on its way is not heard", x.end(0, 12), 1);
    due.is("6: ENDURED, MULT 1", x.end(0, 13), 0);
    x = Due.linked("B9929929991");
    due.is("6: ENDURED, MULT 2", x.end(0, 13), 1);
    x = Due.linked("B9959959991");
    due.is("6: NOTICED, MULT 5", x.end(1, 12), 37);
    due.is("6: ENDURED, MULT 5", x.end(1, 13), 4);
    x.turn(0);
    due.is("6: ENDURED, its way is CUT", x.end(1, 13), StillThere.NONE);
    // END 1 falls 37 ticks ahead, and END 0 falls when it hears of that.
    due.is("6: ENDURED by the other one", x.end(0, 13), StillThere.NONE);
    due.is("6: NOTICED does not change WAYS", x.way(1, 0), 1);
    x = Due.passed(20);
    x.demand(0);
    x.pass(3);
    due.is("6: NOTICED by one that TRUSTS", x.end(0, 12), StillThere.NONE);
    due.is("6: ENDURED by one that TRUSTS", x.end(0, 13), 5);
    due.is("6: NOTICED by one that does not", x.end(1, 12), 1);
    // What is asked is the most r, though a lesser one may not be endured (1 falls, 2 does not).
    x = Due.linked("B8449238d1");
    due.is("6: ENDURED is the most", x.end(0, 13), 2);
    // With these it falls at the 61st tick, which is not looked at any more.
    due.is("6: ENDURED for 60 ticks", Due.linked("B255625d05").end(1, 13), 5);
    due.is("6: ENDURED for 60 ticks", Due.linked("B7329644d1").end(0, 13), 3);
    x = Due.linked("B1952446w1");
    due.is("6: ENDURED is NONE if it falls with r 0", x.end(1, 13), StillThere.NONE);
  }

  private static void known() {
    StillThere x = Due.linked("B235914d12");
    int[][] knows = {{0, 9, 1, 4, 1}, {0, 2, 3, 5, 0}};
    for (int e = 0; e < 2; e++) {
      for (int what = 0; what < 5; what++) due.is("7: known(" + e + "," + what + ")", x.known(e, what), knows[e][what]);
    }
    x.tell(0, 0, 7);
    due.is("7: known only when it is heard", x.known(1, 1), 2);
    x.pass(8);
    due.is("7: sent", x.known(1, 1), 2);
    x.pass(1);
    due.is("7: heard", x.known(1, 1), 7);
    due.is("7: COMING is known", x.known(1, 0), 1);
    x = Due.linked("B111112992");
    x.turn(1);
    x.pass(2);
    due.is("7: a fall by silence: DOWN is known", x.known(0, 0), 0);
    due.is("7: the rest stays", x.known(0, 3), 2);
    for (int e : WILD) due.is("7: known(" + e + ",5)", x.known(e, 5), StillThere.UNKNOWN);
    for (int what : new int[] {-1, 5, Integer.MIN_VALUE, Integer.MAX_VALUE}) {
      due.is("7: known(1," + what + ")", x.known(1, what), StillThere.OUTSIDE);
    }
  }

  private static void way() {
    StillThere x = Due.passed(1);
    due.is("8: a LETTER is on WAY 0", x.way(0, 1), 1);
    due.is("8: a LETTER is on WAY 1", x.way(1, 1), 1);
    x.turn(0);
    due.is("8: CUT", x.way(0, 0), 0);
    due.is("8: the other one is not", x.way(1, 0), 1);
    due.is("8: the LETTER stays", x.way(0, 1), 1);
    x.pass(1);
    due.is("8: taken off", x.way(0, 1), 0);
    due.is("8: not heard", x.end(1, 8), 2);
    due.is("8: heard on the other one", x.end(0, 5), 1);
    for (int way : WILD) due.is("8: way(" + way + ",2)", x.way(way, 2), StillThere.UNKNOWN);
    for (int what : new int[] {-1, 2, Integer.MIN_VALUE, Integer.MAX_VALUE}) {
      due.is("8: way(0," + what + ")", x.way(0, what), StillThere.OUTSIDE);
    }
  }
}
