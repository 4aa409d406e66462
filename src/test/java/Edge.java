import java.io.IOException;
import java.io.UncheckedIOException;
import java.nio.file.Files;
import java.nio.file.Path;
import java.util.LinkedHashMap;
import java.util.Map;
import java.util.function.Supplier;
import java.util.function.ToLongFunction;

/** Tests that belong to one sentence of the document each; the sentence is told with what is wrong. */
final class Edge {
  private static final String DOCUMENT = document();
  private final Map<String, Supplier<StillThere>> histories = Histories.all();
  private final Map<String, String> wholes = new LinkedHashMap<>();
  private final Due due;
  private String words = "";

  Edge(String name) {
    due = new Due(name);
    histories.forEach((history, made) -> wholes.put(history, Whole.of(made)));
  }

  static String plain(String text) {
    return text.replaceAll("```(text)?", " ").replaceAll("\\s+", " ");
  }

  static String document() {
    try {
      return plain(Files.readString(Path.of("../shared/DOC.md")));
    } catch (IOException e) {
      throw new UncheckedIOException(e);
    }
  }

  /** From here on: what these words of the document say. */
  void sentence(String words) {
    this.words = "\"" + words + "\": ";
    due.is("the document says " + words, DOCUMENT.contains(plain(words)) ? 1 : 0, 1);
  }

  void is(String call, long got, long want) {
    due.is(words + call, got, want);
  }

  void same(String what, Supplier<StillThere> got, Supplier<StillThere> want) {
    due.same(words + what, Whole.of(got), Whole.of(want));
  }

  /** A call that is refused whatever was ahead of it, and leaves all as it was. */
  void refused(String call, int refusal, ToLongFunction<StillThere> asked) {
    for (String history : histories.keySet()) refusedIn(history, call, refusal, asked);
  }

  void refusedIn(String history, String call, int refusal, ToLongFunction<StillThere> asked) {
    is(history + ", " + call, asked.applyAsLong(histories.get(history).get()), refusal);
    leavesAll(history, call, asked);
  }

  /** A call that is refused on an object made so. */
  void refusedBy(String call, int refusal, Supplier<StillThere> made, ToLongFunction<StillThere> asked) {
    is(call, asked.applyAsLong(made.get()), refusal);
    same(call + " leaves all", () -> after(made, asked), made);
  }

  /** A call that only asks, whatever was ahead of it. */
  void leaves(String call, ToLongFunction<StillThere> asked) {
    for (String history : histories.keySet()) leavesAll(history, call, asked);
  }

  private void leavesAll(String history, String call, ToLongFunction<StillThere> asked) {
    String left = Whole.of(() -> after(histories.get(history), asked));
    due.same(words + history + ", " + call + " leaves all", left, wholes.get(history));
  }

  private static StillThere after(Supplier<StillThere> made, ToLongFunction<StillThere> asked) {
    StillThere x = made.get();
    asked.applyAsLong(x);
    return x;
  }

  void end() {
    due.end();
  }
}
