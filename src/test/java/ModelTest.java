import java.util.ArrayList;
import java.util.List;
import java.util.Random;

/** The same calls, by fixed seeds, on the class and on the second reading of the document. */
public final class ModelTest {
  private static final int RUNS = 4000, CALLS = 120;
  private static final int[] EDGES = {Integer.MIN_VALUE, -2, -1, 0, 1, 2, 3, 4, 5, 6, 7, 9, 10, 13, 14, 30, 31,
      99, 100, 255, 256, Integer.MAX_VALUE};

  private final Random random;
  private final StillThere tested = new StillThere();
  private final Model model = new Model();
  private final List<String> told = new ArrayList<>();
  private boolean wrong = false;

  private ModelTest(long seed) { random = new Random(seed); }

  public static void main(String[] args) {
    int wrongRuns = 0;
    for (int run = 0; run < RUNS && wrongRuns < 3; run++) {
      ModelTest test = new ModelTest(run);
      test.play();
      if (test.wrong) {
        wrongRuns++;
        System.out.println("run " + run + ": " + String.join(" ", test.told));
      }
    }
    System.out.println(wrongRuns == 0 ? "ModelTest: all runs agree" : "ModelTest: runs differ");
    if (wrongRuns != 0) System.exit(1);
  }

  private void same(String call, long got, long want) {
    told.add(call + "=" + got);
    if (got == want) return;
    wrong = true;
    told.add("<- due is " + want);
  }

  private int below(int n) { return random.nextInt(n); }

  /** Mostly a number of least to most, sometimes one at an edge or far outside. */
  private int number(int least, int most) {
    return below(25) == 0 ? EDGES[below(EDGES.length)] : least + below(most - least + 1);
  }

  private void play() {
    if (below(8) != 0) writeLink();
    for (int i = 0; i < CALLS && !wrong; i++) {
      if (below(3) == 0) act(); else if (below(30) == 0) writeLink(); else ask();
    }
    if (!wrong) lookAtAll();
  }

  private void writeLink() {
    if (below(6) != 0) same("wipe()", tested.wipe(), model.wipe());
    StringBuilder text = new StringBuilder("B");
    boolean small = below(2) == 0;
    for (int i = 0; i < 6; i++) text.append(1 + below(i % 3 == 2 ? 5 : small ? 3 : 9));
    int events = below(12);
    for (int i = 0; i < events; i++) {
      int kind = below(8);
      text.append(kind == 0 ? "d" + below(2) : kind == 1 ? "w" + below(2) : "" + (1 + below(9)));
    }
    if (below(10) == 0) text.setCharAt(below(text.length()), "B0123456789dwx ".charAt(below(15)));
    if (below(20) == 0) text.setLength(below(text.length() + 1));
    if (below(40) == 0) while (text.length() < 75) text.append(1 + below(3));
    for (int i = 0; i < text.length(); i++) {
      int letter = text.charAt(i);
      same("write(" + letter + ")", tested.write(letter), model.write(letter));
    }
    same("fault()", tested.fault(), model.fault());
    same("link()", tested.link(), model.link());
  }

  private void act() {
    int e = number(0, 1);
    switch (below(9)) {
      case 0: case 1: case 2: case 3: {
        int k = below(2) == 0 ? number(1, 30) : number(1, 4);
        same("pass(" + k + ")", tested.pass(k), model.pass(k));
        break;
      }
      case 4: {
        int what = number(0, 2), v = number(1, 9);
        same("tell(" + e + "," + what + "," + v + ")", tested.tell(e, what, v), model.tell(e, what, v));
        break;
      }
      case 5: same("demand(" + e + ")", tested.demand(e), model.demand(e)); break;
      case 6: same("turn(" + e + ")", tested.turn(e), model.turn(e)); break;
      case 7: same("poll(" + e + ")", tested.poll(e), model.poll(e)); break;
      default: same("undo()", tested.undo(), model.undo());
    }
  }

  private void ask() {
    int e = number(0, 1);
    switch (below(16)) {
      case 0: case 1: case 2: {
        int what = number(0, 13);
        same("end(" + e + "," + what + ")", tested.end(e, what), model.end(e, what));
        break;
      }
      case 3: {
        int what = number(0, 4);
        same("known(" + e + "," + what + ")", tested.known(e, what), model.known(e, what));
        break;
      }
      case 4: {
        int what = number(0, 1);
        same("way(" + e + "," + what + ")", tested.way(e, what), model.way(e, what));
        break;
      }
      case 5: {
        int k = number(0, 99), what = number(0, 3);
        same("ahead(" + k + "," + what + ")", tested.ahead(k, what), model.ahead(k, what));
        break;
      }
      case 6: {
        int k = number(0, 99);
        same("letters(" + k + ")", tested.letters(k), model.letters(k));
        break;
      }
      case 7: case 8: judgeSome(); break;
      case 9: {
        int k = number(0, 99), s = number(0, 2);
        if (below(3) == 0 && e >= 0 && k >= 0 && k < 100) s = model.ahead(k, e & 1);
        same("see(" + k + "," + e + "," + s + ")", tested.see(k, e, s), model.see(k, e, s));
        break;
      }
      case 10: same("which()", tested.which(), model.which()); break;
      case 11: chances(); break;
      case 12: {
        if (below(3) == 0) {
          long v = random.nextLong();
          same("seed(" + v + ")", tested.seed(v), model.seed(v));
        }
        int m = number(1, 99);
        same("drawn(" + m + ")", tested.drawn(m), model.drawn(m));
        break;
      }
      case 13: same("keep(" + e + ")", tested.keep(e), model.keep(e)); break;
      case 14: {
        int what = number(0, 5);
        same("count(" + what + ")", tested.count(what), model.count(what));
        break;
      }
      default: seldom(e);
    }
  }

  private void seldom(int e) {
    switch (below(3)) {
      case 0: same("again(" + e + ")", tested.again(e), model.again(e)); break;
      case 1: same("unsee()", tested.unsee(), model.unsee()); break;
      default: same("fault()", tested.fault(), model.fault());
    }
  }

  private void judgeSome() {
    int n = number(1, 4);
    long row = 0;
    for (int i = 0; i < 4 && i < n; i++) {
      int e = below(2);
      int[] doings = {101 + below(30), 200 + e, 300 + e, 400 + e, 500 + 10 * e + below(3), 600 + 10 * e + below(2),
          700 + 10 * e + below(10), below(1000)};
      row = row * 1000 + doings[below(8)];
    }
    if (below(20) == 0) row = row * 10 + below(10);
    if (below(30) == 0) row = random.nextLong();
    same("judge(" + n + "," + row + ")", tested.judge(n, row), model.judge(n, row));
  }

  private void chances() {
    boolean upper = random.nextBoolean();
    if (below(2) == 0) {
      int setting = number(0, 3);
      same("share(" + setting + "," + upper + ")", tested.share(setting, upper), model.share(setting, upper));
    } else {
      int r = number(0, 6), x = number(0, 10);
      same("luck(" + r + "," + x + "," + upper + ")", tested.luck(r, x, upper), model.luck(r, x, upper));
    }
  }

  private void lookAtAll() {
    for (int e = 0; e < 2; e++) {
      for (int what = 0; what < 14; what++) same("end(" + e + "," + what + ")", tested.end(e, what), model.end(e, what));
      for (int what = 0; what < 5; what++) same("known(" + e + "," + what + ")", tested.known(e, what), model.known(e, what));
      for (int what = 0; what < 2; what++) same("way(" + e + "," + what + ")", tested.way(e, what), model.way(e, what));
    }
    for (int what = 0; what < 6; what++) same("count(" + what + ")", tested.count(what), model.count(what));
  }
}
