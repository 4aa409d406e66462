/** What the project's tests share: answers that are due, texts written letter by letter. */
final class Due {
  private final String name;
  private int asked = 0, wrong = 0;

  Due(String name) { this.name = name; }

  void is(String call, long got, long want) {
    asked++;
    if (got == want) return;
    wrong++;
    System.out.println(name + ": " + call + " answered " + got + ", due is " + want);
  }

  void same(String what, String got, String want) {
    asked++;
    if (got.equals(want)) return;
    wrong++;
    System.out.println(name + ": " + what + " is " + got + ", due is " + want);
  }

  void end() {
    System.out.println(name + ": " + asked + " asked, " + wrong + " wrong");
    if (wrong != 0) System.exit(1);
  }

  static StillThere write(StillThere x, String text) {
    x.wipe();
    for (int i = 0; i < text.length(); i++) x.write(text.charAt(i));
    return x;
  }

  static StillThere linked(String text) {
    StillThere x = write(new StillThere(), text);
    if (x.link() < 0) throw new IllegalStateException("no link: " + text);
    return x;
  }

  static StillThere passed(int ticks) {
    StillThere x = new StillThere();
    x.pass(ticks);
    return x;
  }

  /** All of ends, ways, clock, sent and uptime that can be asked for. */
  static String told(StillThere x) {
    StringBuilder all = new StringBuilder();
    for (int e = 0; e < 2; e++) {
      for (int what = 0; what < 14; what++) all.append(x.end(e, what)).append(' ');
      for (int what = 0; what < 5; what++) all.append(x.known(e, what)).append(' ');
      for (int what = 0; what < 2; what++) all.append(x.way(e, what)).append(' ');
    }
    for (int what = 1; what < 4; what++) all.append(x.count(what)).append(' ');
    return all.append(x.letters(7)).toString();
  }
}
