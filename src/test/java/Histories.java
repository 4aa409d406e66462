import java.util.LinkedHashMap;
import java.util.Map;
import java.util.function.Supplier;

/** Objects with something behind them: on each of them a refused call must leave all as it was. */
final class Histories {
  private Histories() { }

  static Map<String, Supplier<StillThere>> all() {
    Map<String, Supplier<StillThere>> all = new LinkedHashMap<>();
    all.put("new", StillThere::new);
    all.put("coming", Histories::coming);
    all.put("polling", Histories::polling);
    all.put("cut", Histories::cut);
    all.put("full", Histories::full);
    return all;
  }

  /** Half a text, both ends COMING, a letter's place kept in one slot. */
  static StillThere coming() {
    StillThere x = new StillThere();
    x.write('B');
    x.write('1');
    x.pass(1);
    x.keep(0);
    x.pass(4);
    x.see(3, 1, 1);
    return x;
  }

  /** Both UP and polling, a poll and an answer on the ways, USED ones that are not as SETTINGS are. */
  static StillThere polling() {
    StillThere x = Due.linked("B234325999");
    x.seed(77);
    x.see(5, 0, 2);
    x.tell(0, 0, 9);
    x.tell(1, 1, 1);
    x.keep(1);
    x.poll(0);
    x.pass(2);
    x.demand(1);
    return x;
  }

  /** Fallen by a cut way, half an event behind the text. */
  static StillThere cut() {
    StillThere x = Due.linked("B121212999");
    x.write('d');
    x.turn(1);
    x.tell(0, 1, 7);
    x.pass(13);
    x.seed(-1);
    return x;
  }

  /** 70 letters, 14 acts in the row with two forgotten, 6 seen, both slots. */
  static StillThere full() {
    StillThere x = Due.linked("B314215" + "d1w0" + "9".repeat(3) + "w0" + "9".repeat(50) + "1234");
    x.seed(Long.MIN_VALUE);
    for (int i = 0; i < 6; i++) x.see(7 * i, i % 2, 2);
    x.keep(0);
    for (int i = 1; i <= 14; i++) x.pass(i);
    x.keep(1);
    x.tell(1, 0, 4);
    x.turn(1);
    return x;
  }
}
