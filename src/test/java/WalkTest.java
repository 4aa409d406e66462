import java.io.IOException;
import java.nio.file.Files;
import java.nio.file.Path;
import java.util.ArrayList;
import java.util.List;
import java.util.regex.Matcher;
import java.util.regex.Pattern;
import java.util.stream.Stream;

/**
 * The document from its first line to its last: the sentences that no Edges..Test is about, and that
 * none is left out. A sentence that a later document adds is told here until a test quotes it.
 */
public final class WalkTest {
  private static final int UNKNOWN = StillThere.UNKNOWN, OUTSIDE = StillThere.OUTSIDE, STATE = StillThere.STATE,
      FULL = StillThere.FULL;
  /** Of what is quoted nowhere: titles, and words that only lead to the next ones. */
  private static final String[] SAY_NOTHING = {"", "REFUSALS", "==== [1-4]", "==== 3 SEEN", "==== 4 MORE PLAINLY",
      "\\([abc]\\) END 0, then END 1", "by the MOOD that this tells", "then",
      "## Promise \\d+: [\\w ]+?( `[^`]*`)?",
      "(Ahead of the calls [`\\w, ]+ the interface says: ---- [\\w, ]+\\. ?)+## Promise 1: A new object `StillThere\\(\\)`"};
  private static final char QUOTED = '\t';
  private static final Edge edge = new Edge("WalkTest");

  public static void main(String[] args) throws IOException {
    kindsOfRefusals();
    none();
    tickByTick();
    toldAnew();
    end();
    letters();
    which();
    nothingIsLeftOut();
    edge.end();
  }

  private static void kindsOfRefusals() {
    edge.sentence("UNKNOWN (there is no such END, WAY, SETTING, slot), OUTSIDE (another number is not as told), "
        + "STATE (as told), FULL (as told).");
    edge.refused("an END", UNKNOWN, x -> x.end(2, 5));
    edge.refused("a WAY", UNKNOWN, x -> x.way(2, 0));
    edge.refused("a SETTING", UNKNOWN, x -> x.share(4, true));
    edge.refused("a slot", UNKNOWN, x -> x.keep(2));
    edge.refused("which of its numbers", OUTSIDE, x -> x.end(1, 14));
    edge.refused("which SETTING is told", OUTSIDE, x -> x.tell(1, 3, 1));
    edge.refused("how many TICKS", OUTSIDE, x -> x.pass(31));
    edge.refusedIn("new", "nothing to undo", STATE, StillThere::undo);
    edge.refusedIn("full", "a letter more", FULL, x -> x.write('9'));
  }

  private static void none() {
    edge.sentence("NONE is -9.");
    edge.is("no fault", Due.write(new StillThere(), "B111111").fault(), -9);
    edge.is("no doing that can not be", new StillThere().judge(1, 101), -9);
  }

  /** Behind each tick, of END 0, then of END 1: MOOD, the MOOD that it KNOWS, SILENCE, NEXT; then SENT, UPTIME. */
  private static final int[][] STORY = {
      {0, 0, 0, 0, 0, 0, 0, 0, 0, 0},
      {0, 0, 1, 9, 0, 0, 1, 9, 2, 0},
      {1, 0, 0, 8, 1, 0, 0, 8, 2, 0},
      {1, 0, 1, 7, 1, 0, 1, 7, 2, 0},
      {1, 0, 2, 6, 1, 0, 2, 6, 2, 0},
      {1, 0, 3, 5, 1, 0, 3, 5, 2, 0},
      {1, 0, 4, 4, 1, 0, 4, 4, 2, 0},
      {1, 0, 5, 3, 1, 0, 5, 3, 2, 0},
      {1, 0, 6, 2, 1, 0, 6, 2, 2, 0},
      {1, 0, 7, 1, 1, 0, 7, 1, 2, 0},
      {1, 0, 8, 9, 1, 0, 8, 9, 4, 0},
      {2, 1, 0, 8, 2, 1, 0, 8, 4, 1},
      {2, 1, 1, 7, 2, 1, 1, 7, 4, 2},
      {2, 1, 2, 6, 2, 1, 2, 6, 4, 3},
      {2, 1, 3, 5, 2, 1, 3, 5, 4, 4},
      {2, 1, 4, 4, 2, 1, 4, 4, 4, 5},
      {2, 1, 5, 3, 2, 1, 5, 3, 4, 6},
      {2, 1, 6, 2, 2, 1, 6, 2, 4, 7},
      {2, 1, 7, 1, 2, 1, 7, 1, 4, 8},
      {2, 1, 8, 3, 2, 1, 8, 5, 6, 9},
      {2, 2, 0, 2, 2, 2, 0, 4, 6, 10},
      {2, 2, 1, 1, 2, 2, 1, 3, 6, 11},
      {2, 2, 2, 3, 2, 2, 2, 2, 7, 12},
      {2, 2, 3, 2, 2, 2, 0, 1, 7, 13},
      {2, 2, 4, 1, 2, 2, 1, 5, 8, 14},
      {2, 2, 0, 3, 2, 2, 2, 4, 9, 15},
      {2, 2, 1, 2, 2, 2, 0, 3, 9, 16},
      {2, 2, 2, 1, 2, 2, 1, 2, 9, 17}};

  private static void tickByTick() {
    edge.sentence("it has USED TX, USED RX; a MOOD: DOWN (0), COMING (1), UP (2); it POLLS, or not; it wants DEMAND, "
        + "or not; it OWES an answer, or not; SILENCE, NEXT (whole numbers); and what it KNOWS of the other one: MOOD, "
        + "TX, RX, MULT, DEMAND.");
    StillThere x = Due.linked("B324533");
    for (int tick = 0; tick < STORY.length; tick++) {
      int[] due = STORY[tick];
      for (int e = 0; e < 2; e++) {
        String of = "of END " + e + " at " + tick;
        edge.is("MOOD " + of, x.end(e, 5), due[4 * e]);
        edge.is("the MOOD that is KNOWN " + of, x.known(e, 0), due[4 * e + 1]);
        edge.is("SILENCE " + of, x.end(e, 8), due[4 * e + 2]);
        edge.is("NEXT " + of, x.end(e, 9), due[4 * e + 3]);
      }
      edge.is("SENT at " + tick, x.count(2), due[8]);
      edge.is("UPTIME at " + tick, x.count(3), due[9]);
      x.pass(1);
    }
  }

  private static void toldAnew() {
    edge.sentence("TOLD: a SETTING is told anew;");
    for (int what = 0; what < 3; what++) {
      StillThere x = Due.linked("B324533999");
      int[] was = {3, 2, 4};
      edge.is("tell(0," + what + ",5)", x.tell(0, what, 5), was[what]);
      for (int each = 0; each < 3; each++) {
        edge.is("SETTING " + each, x.end(0, each), each == what ? 5 : was[each]);
        edge.is("SETTING " + each + " of END 1", x.end(1, each), new int[] {5, 3, 3}[each]);
      }
      edge.is("tell(0," + what + ",1)", x.tell(0, what, 1), 5);
    }
  }

  private static void end() {
    edge.sentence("Of an END TX (what = 0), RX (1), MULT (2), USED TX (3), USED RX (4), MOOD (5), 1 if it POLLS, 0 (6), "
        + "1 if it wants DEMAND, 0 (7), SILENCE (8), NEXT (9), PACE (10), LIMIT (11),");
    StillThere x = Due.linked("B324533999");
    x.tell(0, 0, 7);
    x.tell(0, 1, 1);
    x.demand(0);
    // PACE: USED TX 3, the RX that it KNOWS 3; LIMIT: MULT 3 times TX 5.
    int[] zero = {7, 1, 4, 3, 2, 2, 1, 1, 2, 1, 3, 15};
    int[] one = {5, 3, 3, 5, 3, 2, 0, 0, 1, 2, 5, 12};
    for (int what = 0; what < 12; what++) {
      edge.is("end(0," + what + ")", x.end(0, what), zero[what]);
      edge.is("end(1," + what + ")", x.end(1, what), one[what]);
    }
  }

  private static void letters() {
    edge.sentence("LETTERS k. OUTSIDE.");
    for (int k : new int[] {-1, 100, Integer.MIN_VALUE, Integer.MAX_VALUE}) {
      edge.refused("letters(" + k + ")", OUTSIDE, x -> x.letters(k));
    }
    StillThere x = Due.linked("B324533999");
    edge.is("letters(0)", x.letters(0), 0);
    edge.is("letters(1): END 0 at 28", x.letters(1), 1);
    edge.is("letters(2): END 1 at 29", x.letters(2), 2);
    edge.is("letters(99): END 0 at 28, 31 .. 124, END 1 at 29, 34 .. 124", x.letters(99), 33 + 20);
  }

  private static void which() {
    edge.sentence("`int which()`: WHICH.");
    StillThere x = Due.linked("B324533999");
    edge.is("nothing is SEEN", x.which(), 1022);
    // Last HEARD at 25: it FALLS at 25 + LIMIT, MULT 3 times the greater of RX and TX 5.
    x.turn(1);
    x.see(18, 0, 2);
    edge.is("UP at 45: RX of 7 and more", x.which(), 128 + 256 + 512);
    x.see(19, 0, 0);
    edge.is("DOWN at 46: RX 7", x.which(), 128);
    x.see(19, 0, 2);
    edge.is("both: none", x.which(), 0);
  }

  private static void nothingIsLeftOut() throws IOException {
    edge.sentence("## Terms");
    String document = Edge.document();
    StringBuilder left = new StringBuilder(document);
    for (String quote : quotes()) {
      // Looked for in the document, not in what is left: quotes may overlap.
      int at = document.indexOf(quote);
      for (int i = at; at >= 0 && i < at + quote.length(); i++) left.setCharAt(i, QUOTED);
    }
    String terms = left.substring(document.indexOf("## Terms"), document.indexOf("## Not promised"));
    for (String rest : terms.split(QUOTED + "+")) {
      String words = rest.replaceAll("^[ ;:,.]+|[ ;:,.]+$", "");
      edge.is("quoted nowhere: " + words, saysNothing(words) ? 1 : 0, 1);
    }
  }

  private static boolean saysNothing(String words) {
    return Stream.of(SAY_NOTHING).anyMatch(words::matches);
  }

  /** Every text that a test hands to sentence(..). */
  private static List<String> quotes() throws IOException {
    List<String> quotes = new ArrayList<>();
    List<Path> files;
    try (Stream<Path> all = Files.list(Path.of("src/test/java"))) {
      files = all.filter(file -> file.toString().endsWith("Test.java")).toList();
    }
    for (Path file : files) {
      Matcher call = Pattern.compile("sentence\\(((?:\\s*\\+?\\s*\"(?:[^\"\\\\]|\\\\.)*\")+)\\)").matcher(Files.readString(file));
      while (call.find()) quotes.add(joined(call.group(1)));
    }
    return quotes;
  }

  private static String joined(String literals) {
    StringBuilder text = new StringBuilder();
    Matcher literal = Pattern.compile("\"((?:[^\"\\\\]|\\\\.)*)\"").matcher(literals);
    while (literal.find()) text.append(literal.group(1).replace("\\\"", "\""));
    return Edge.plain(text.toString());
  }
}
