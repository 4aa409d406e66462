import java.util.function.Supplier;

/**
 * All that can be asked of an object, so that two that should be alike can be compared. Some of it can
 * only be asked by changing the object (what was undone, what was kept), so each part asks one of its
 * own that was made in the same way. None of them is used for more than 512 calls.
 */
final class Whole {
  private final StringBuilder told = new StringBuilder();

  private Whole() { }

  static String of(Supplier<StillThere> made) {
    Whole whole = new Whole();
    whole.asItIs(made.get());
    whole.goingOn(made.get());
    whole.undone(made.get());
    whole.goneOnFrom(made.get(), 0);
    whole.goneOnFrom(made.get(), 1);
    whole.linked(made.get());
    return whole.told.toString();
  }

  private Whole add(String what, long answer) {
    told.append(what).append(' ').append(answer).append("; ");
    return this;
  }

  private void plain(StillThere x) {
    for (int e = 0; e < 2; e++) {
      for (int what = 0; what < 12; what++) add("", x.end(e, what));
      for (int what = 0; what < 5; what++) add("", x.known(e, what));
      for (int what = 0; what < 2; what++) add("", x.way(e, what));
    }
    for (int what = 0; what < 6; what++) add("", x.count(what));
  }

  private void asItIs(StillThere x) {
    told.append("now: ");
    plain(x);
    for (int e = 0; e < 2; e++) add("noticed", x.end(e, 12)).add("endured", x.end(e, 13));
    for (int k : new int[] {1, 2, 9, 33, 99}) add("letters", x.letters(k)).add("uptime", x.ahead(k, 3));
    add("fault", x.fault()).add("which", x.which());
    add("luck", x.luck(3, 4, true));
    for (int setting = 0; setting < 4; setting++) add("share", x.share(setting, true));
    add("drawn", x.drawn(50)).add("seed", x.seed(1)).add("unsee", x.unsee()).add("wipe", x.wipe());
  }

  /** Tick by tick: what the letters on the ways tell comes out only when they are heard. */
  private void goingOn(StillThere x) {
    told.append("going on: ");
    for (int i = 0; i < 4; i++) {
      add("pass", x.pass(1));
      plain(x);
    }
    add("which", x.which());
    add("pass", x.pass(30));
    plain(x);
    add("which", x.which());
  }

  private void undone(StillThere x) {
    told.append("undone: ");
    for (int i = 0; i < 15; i++) {
      add("undo", x.undo()).add("", x.count(1));
      for (int e = 0; e < 2; e++) {
        for (int what = 0; what < 10; what++) add("", x.end(e, what));
        add("", x.way(e, 0));
      }
    }
  }

  private void goneOnFrom(StillThere x, int slot) {
    told.append("gone on from ").append(slot).append(": ");
    add("again", x.again(slot));
    plain(x);
    add("pass", x.pass(2));
    plain(x);
  }

  private void linked(StillThere x) {
    told.append("linked: ");
    add("link", x.link()).add("again", x.again(0)).add("again", x.again(1));
    plain(x);
  }
}
