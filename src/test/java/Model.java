import java.math.BigInteger;
import java.util.ArrayDeque;
import java.util.ArrayList;
import java.util.Arrays;
import java.util.Deque;
import java.util.List;
import java.util.regex.Matcher;
import java.util.regex.Pattern;

/**
 * The document read a second time, in another way than the class does it: state that is copied
 * whole, a pattern for the text, every order for shares, a branch at each letter for luck. It is
 * compared with the class by ModelTest.
 */
final class Model {
  static final int UNKNOWN = -1, OUTSIDE = -2, STATE = -3, FULL = -4, NONE = -9;
  private static final Pattern LINK = Pattern.compile("B([1-9][1-9][1-5]){2}([1-9]|[dw][01])*");

  /** A letter, or what an end knows. */
  record News(int mood, int tx, int rx, int mult, int demand, boolean polls, boolean answer, boolean lost) { }

  static final class Side implements Cloneable {
    int[] settings = {1, 1, 1};
    int[] used = {1, 1};
    int mood = 0, silence = 0, next = 0, demand = 0;
    boolean polls = false, owes = false;
    News knows = new News(0, 1, 1, 1, 0, false, false, false);

    Side copy() {
      Side c = new Side();
      c.settings = settings.clone();
      c.used = used.clone();
      c.mood = mood;
      c.silence = silence;
      c.next = next;
      c.demand = demand;
      c.polls = polls;
      c.owes = owes;
      c.knows = knows;
      return c;
    }

    boolean bothUp() { return mood == 2 && knows.mood() == 2; }
    int pace() { return mood != 2 ? 9 : Math.max(used[0], knows.rx()); }
    int limit() {
      int greatest = used[1];
      if (knows.tx() > greatest) greatest = knows.tx();
      if (!bothUp() && greatest < 9) greatest = 9;
      return greatest * knows.mult();
    }
    boolean still() { return knows.demand() == 1 && bothUp() && !polls; }
    boolean trusts() { return demand == 1 && bothUp() && !polls; }
    void falls() {
      mood = 0;
      polls = false;
      used = new int[] {settings[0], settings[1]};
    }
    void told(int what, int v) {
      settings[what] = v;
      if (what == 2) return;
      if (mood != 2) {
        used[what] = v;
        return;
      }
      polls = true;
      if (what == 0 && v < used[0]) used[0] = v;
      if (what == 1 && v > used[1]) used[1] = v;
    }
    boolean polled() {
      if (mood != 2 || polls) return false;
      polls = true;
      silence = 0;
      next = 0;
      return true;
    }
  }

  static final class All {
    Side[] ends = {new Side(), new Side()};
    boolean[] open = {true, true};
    News[] on = {null, null};
    int clock = 0, sent = 0, uptime = 0;
    /** How many letters that come to an end are still to be lost. */
    int[] losing = {0, 0};

    All copy() {
      All c = new All();
      c.ends = new Side[] {ends[0].copy(), ends[1].copy()};
      c.open = open.clone();
      c.on = on.clone();
      c.clock = clock;
      c.sent = sent;
      c.uptime = uptime;
      c.losing = losing.clone();
      return c;
    }

    void hear(int e) {
      Side me = ends[e];
      int way = 1 - e;
      News letter = on[way];
      on[way] = null;
      boolean heard = letter != null && open[way] && !letter.lost();
      if (heard && losing[e] > 0) {
        losing[e]--;
        heard = false;
      }
      if (!heard) {
        me.silence++;
        return;
      }
      me.silence = 0;
      me.knows = letter;
      // rows: what is told, columns: what it is; 9 is a fall
      int[][] table = {{1, 1, 9}, {2, 2, 2}, {0, 2, 2}};
      int becomes = table[letter.mood()][me.mood];
      if (becomes == 9) me.falls(); else me.mood = becomes;
      if (letter.polls()) me.owes = true;
      if (letter.answer() && me.polls) {
        me.polls = false;
        me.used = new int[] {me.settings[0], me.settings[1]};
      }
    }

    void watch(int e) {
      Side me = ends[e];
      if (me.mood == 0 || me.trusts() || me.silence < me.limit()) return;
      me.falls();
      News k = me.knows;
      me.knows = new News(0, k.tx(), k.rx(), k.mult(), k.demand(), false, false, false);
    }

    boolean due(int e) {
      Side me = ends[e];
      if (me.next > 0) me.next--;
      return me.owes || (me.next == 0 && !me.still());
    }

    void send(int e, boolean lost) {
      Side me = ends[e];
      on[e] = new News(me.mood, me.settings[0], me.settings[1], me.settings[2], me.demand, me.polls, me.owes, lost);
      me.owes = false;
      me.next = me.pace();
      sent++;
    }

    void beforeSending() {
      clock++;
      hear(0);
      hear(1);
      watch(0);
      watch(1);
    }

    void afterSending() {
      if (ends[0].mood == 2 && ends[1].mood == 2) uptime++;
    }

    All ticks(int k) {
      for (int i = 0; i < k; i++) {
        beforeSending();
        if (due(0)) send(0, false);
        if (due(1)) send(1, false);
        afterSending();
      }
      return this;
    }

    All ahead(int k) { return copy().ticks(k); }
  }

  private final StringBuilder text = new StringBuilder();
  private All now = new All();
  private final Deque<All> acts = new ArrayDeque<>();
  private final All[] slots = new All[2];
  private final List<int[]> seen = new ArrayList<>();
  private long seed = 0;

  private static boolean in(int v, int least, int most) { return v >= least && v <= most; }

  private void act() {
    if (acts.size() == 14) acts.removeFirst();
    acts.addLast(now.copy());
  }

  int write(int letter) {
    if (!in(letter, 0, 255)) return OUTSIDE;
    if (text.length() == 70) return FULL;
    text.append((char) letter);
    return text.length();
  }

  int wipe() {
    int n = text.length();
    text.setLength(0);
    return n;
  }

  /** Whether some text that begins so is a link (its length set aside). */
  private static boolean canBecome(String beginning) {
    Matcher m = LINK.matcher(beginning);
    return m.matches() || m.hitEnd();
  }

  int fault() {
    for (int i = 1; i <= text.length(); i++) {
      if (!canBecome(text.substring(0, i))) return i - 1;
    }
    return LINK.matcher(text).matches() ? NONE : text.length();
  }

  int link() {
    if (fault() != NONE) return STATE;
    now = new All();
    for (int i = 0; i < 6; i++) now.ends[i / 3].told(i % 3, text.charAt(1 + i) - '0');
    Matcher m = Pattern.compile("[1-9]|[dw][01]").matcher(text.substring(7));
    while (m.find()) {
      String event = m.group();
      if (event.length() == 1) now.ticks(Integer.parseInt(event));
      else if (event.charAt(0) == 'd') now.ends[event.charAt(1) - '0'].demand ^= 1;
      else now.open[event.charAt(1) - '0'] ^= true;
    }
    acts.clear();
    Arrays.fill(slots, null);
    return now.clock;
  }

  int end(int end, int what) {
    if (!in(end, 0, 1)) return UNKNOWN;
    if (!in(what, 0, 13)) return OUTSIDE;
    Side me = now.ends[end];
    int[] plain = {me.settings[0], me.settings[1], me.settings[2], me.used[0], me.used[1], me.mood,
        me.polls ? 1 : 0, me.demand, me.silence, me.next, me.pace(), me.limit()};
    if (what < 12) return plain[what];
    return what == 12 ? noticed(end) : endured(end);
  }

  private int noticed(int end) {
    All cut = now.copy();
    cut.open = new boolean[2];
    for (int k = 0; k <= 99; k++) if (cut.ahead(k).ends[end].mood == 0) return k;
    return NONE;
  }

  private boolean endures(int end, int r) {
    All all = now.copy();
    all.losing[end] = r;
    for (int k = 1; k <= 60; k++) if (all.ticks(1).ends[end].mood == 0) return false;
    return true;
  }

  private int endured(int end) {
    if (now.ends[end].mood == 0 || !endures(end, 0)) return NONE;
    int most = 0;
    for (int r = 1; r <= 5; r++) if (endures(end, r)) most = r;
    return most;
  }

  int known(int end, int what) {
    if (!in(end, 0, 1)) return UNKNOWN;
    if (!in(what, 0, 4)) return OUTSIDE;
    News k = now.ends[end].knows;
    return new int[] {k.mood(), k.tx(), k.rx(), k.mult(), k.demand()}[what];
  }

  int way(int way, int what) {
    if (!in(way, 0, 1)) return UNKNOWN;
    if (!in(what, 0, 1)) return OUTSIDE;
    return (what == 0 ? now.open[way] : now.on[way] != null) ? 1 : 0;
  }

  int pass(int k) {
    if (!in(k, 1, 30)) return OUTSIDE;
    act();
    return now.ticks(k).clock;
  }

  int tell(int end, int what, int v) {
    if (!in(end, 0, 1)) return UNKNOWN;
    if (!in(what, 0, 2) || !in(v, 1, new int[] {9, 9, 5}[what])) return OUTSIDE;
    act();
    int was = now.ends[end].settings[what];
    now.ends[end].told(what, v);
    return was;
  }

  int demand(int end) {
    if (!in(end, 0, 1)) return UNKNOWN;
    act();
    return now.ends[end].demand ^= 1;
  }

  int turn(int way) {
    if (!in(way, 0, 1)) return UNKNOWN;
    act();
    now.open[way] ^= true;
    return now.open[way] ? 1 : 0;
  }

  int poll(int end) {
    if (!in(end, 0, 1)) return UNKNOWN;
    if (!now.copy().ends[end].polled()) return STATE;
    act();
    now.ends[end].polled();
    return now.ends[end].limit();
  }

  int undo() {
    if (acts.isEmpty()) return STATE;
    now = acts.removeLast();
    return acts.size();
  }

  int ahead(int k, int what) {
    if (!in(k, 0, 99) || !in(what, 0, 3)) return OUTSIDE;
    All then = now.ahead(k);
    return new int[] {then.ends[0].mood, then.ends[1].mood, then.sent, then.uptime}[what];
  }

  int letters(int k) {
    return in(k, 0, 99) ? now.ahead(k).sent - now.sent : OUTSIDE;
  }

  int judge(int n, long row) {
    if (!in(n, 1, 4) || row < 0 || Long.toString(row).length() > 3 * n) return OUTSIDE;
    String figures = String.format("%0" + 3 * n + "d", row);
    All all = now.copy();
    for (int i = 0; i < n; i++) {
      if (!done(all, figures.substring(3 * i, 3 * i + 3))) return i;
    }
    return NONE;
  }

  private static boolean done(All all, String doing) {
    int b = doing.charAt(1) - '0';
    int c = doing.charAt(2) - '0';
    if (doing.matches("1(0[1-9]|[12][0-9]|30)")) all.ticks(10 * b + c);
    else if (doing.matches("20[01]")) all.ends[c].demand ^= 1;
    else if (doing.matches("30[01]")) all.open[c] ^= true;
    else if (doing.matches("40[01]")) return all.ends[c].polled();
    else if (doing.matches("5[01][012]")) return all.ends[b].mood == c;
    else if (doing.matches("6[01][01]")) return all.ends[b].polls == (c == 1);
    else if (doing.matches("7[01][0-9]")) return all.ends[b].pace() == c;
    else return false;
    return true;
  }

  int see(int k, int end, int s) {
    if (!in(end, 0, 1)) return UNKNOWN;
    if (!in(k, 0, 99) || !in(s, 0, 2)) return OUTSIDE;
    if (seen.size() == 6) return FULL;
    seen.add(new int[] {k, end, s});
    return seen.size();
  }

  int unsee() {
    int n = seen.size();
    seen.clear();
    return n;
  }

  int which() {
    int bits = 0;
    for (int rx = 1; rx <= 9; rx++) {
      All all = now.copy();
      all.ends[0].settings[1] = rx;
      all.ends[0].used[1] = rx;
      if (seen.stream().allMatch(s -> all.ahead(s[0]).ends[s[1]].mood == s[2])) bits += 1 << rx;
    }
    return bits;
  }

  private int sentWhenCome(List<Integer> come) {
    All all = now.copy();
    for (int i = 0; i < 4; i++) {
      if (come.contains(i)) continue;
      all.ends[i / 2].settings[i % 2] = 1;
      all.ends[i / 2].used[i % 2] = 1;
    }
    return all.ticks(60).sent - now.sent;
  }

  private int fewerInAllOrders(int setting, List<Integer> come) {
    int sum = 0;
    for (int i = 0; i < 4; i++) {
      if (come.contains(i)) continue;
      List<Integer> more = new ArrayList<>(come);
      more.add(i);
      if (i != setting) {
        sum += fewerInAllOrders(setting, more);
        continue;
      }
      int orders = new int[] {1, 1, 2, 6}[4 - more.size()];
      sum += orders * (sentWhenCome(come) - sentWhenCome(more));
    }
    return sum;
  }

  private static int fraction(BigInteger above, BigInteger below, boolean upper) {
    BigInteger g = above.gcd(below);
    return (upper ? above : below).divide(g).intValueExact();
  }

  int share(int setting, boolean upper) {
    if (!in(setting, 0, 3)) return UNKNOWN;
    return fraction(BigInteger.valueOf(fewerInAllOrders(setting, List.of())), BigInteger.valueOf(24), upper);
  }

  /** Times 10 to the r: that both are up when the ticks are over, from ahead of this end's sending on. */
  private static BigInteger up(All all, int ticks, int end, int r, int x) {
    if (ticks == 0) {
      boolean both = all.ends[0].mood == 2 && all.ends[1].mood == 2;
      return both ? BigInteger.TEN.pow(r) : BigInteger.ZERO;
    }
    if (end == 0) all.beforeSending();
    int nextEnd = 1 - end;
    int nextTicks = end == 0 ? ticks : ticks - 1;
    if (!all.due(end)) return up(all, nextTicks, nextEnd, r, x);
    if (r == 0) {
      all.send(end, false);
      return up(all, nextTicks, nextEnd, 0, x);
    }
    All lost = all.copy();
    lost.send(end, true);
    all.send(end, false);
    return up(all, nextTicks, nextEnd, r - 1, x).multiply(BigInteger.valueOf(10 - x))
        .add(up(lost, nextTicks, nextEnd, r - 1, x).multiply(BigInteger.valueOf(x)));
  }

  int luck(int r, int x, boolean upper) {
    if (!in(r, 0, 6) || !in(x, 0, 10)) return OUTSIDE;
    return fraction(up(now.copy(), 40, 0, r, x), BigInteger.TEN.pow(r), upper);
  }

  long seed(long v) {
    long was = seed;
    seed = v;
    return was;
  }

  int drawn(int m) {
    if (!in(m, 1, 99)) return OUTSIDE;
    All all = now.copy();
    for (int i = 0; i < m; i++) {
      seed = BigInteger.valueOf(seed).multiply(new BigInteger("6364136223846793005"))
          .add(new BigInteger("1442695040888963407")).longValue();
      int v = (int) (seed >>> 33);
      if (v % 16 == 0) all.open[v / 16 % 2] ^= true;
      all.ticks(1);
    }
    return all.uptime - now.uptime;
  }

  int keep(int slot) {
    if (!in(slot, 0, 1)) return UNKNOWN;
    slots[slot] = now.copy();
    return now.clock;
  }

  int again(int slot) {
    if (!in(slot, 0, 1)) return UNKNOWN;
    if (slots[slot] == null) return STATE;
    now = slots[slot].copy();
    acts.clear();
    return now.clock;
  }

  int count(int what) {
    if (!in(what, 0, 5)) return OUTSIDE;
    return new int[] {text.length(), now.clock, now.sent, now.uptime, acts.size(), seen.size()}[what];
  }
}
