import java.io.IOException;
import java.lang.reflect.Method;
import java.nio.file.Files;
import java.nio.file.Path;
import java.util.ArrayList;
import java.util.HashMap;
import java.util.List;
import java.util.Map;
import java.util.Set;
import java.util.TreeSet;
import java.util.regex.Matcher;
import java.util.regex.Pattern;
import java.util.stream.Stream;

/** What README.md says is so: its example, its table of calls, its table of tests, its command. */
public final class ReadmeTest {
  private static final Pattern MADE = Pattern.compile("StillThere (\\w+) = new StillThere\\(\\);");
  private static final Pattern WRITTEN = Pattern.compile("for \\(char c : \"(.*)\"\\.toCharArray\\(\\)\\) (\\w+)\\.write\\(c\\);");
  private static final Pattern CALLED = Pattern.compile("(\\w+)\\.(\\w+)\\((.*)\\); *// (-?\\w+)(?:: .+)?,?");
  private static final Due due = new Due("ReadmeTest");

  /** The class and the second reading of the document, with the same calls behind them. */
  private record Pair(StillThere tested, Model model) { }

  public static void main(String[] args) throws Exception {
    String readme = Files.readString(Path.of("README.md"));
    String document = Files.readString(Path.of("../shared/DOC.md"));
    example(readme.split("```")[1]);
    calls(readme, document);
    tests(readme);
    command(readme);
    due.end();
  }

  private static void example(String block) throws Exception {
    Map<String, Pair> pairs = new HashMap<>();
    Set<String> shown = new TreeSet<>();
    for (String line : block.strip().split("\n")) {
      Matcher made = MADE.matcher(line);
      Matcher written = WRITTEN.matcher(line);
      Matcher called = CALLED.matcher(line);
      if (line.isBlank() || line.equals("java")) continue;
      if (made.matches()) {
        pairs.put(made.group(1), new Pair(new StillThere(), new Model()));
      } else if (written.matches()) {
        write(pairs.get(written.group(2)), written.group(1));
        shown.add("write");
      } else if (called.matches()) {
        call(pairs.get(called.group(1)), called);
        shown.add(called.group(2));
      } else {
        due.same("a line of the example", line, "a call and its answer");
      }
    }
    due.same("the calls of the example", shown.toString(), publicNames().toString());
  }

  private static void write(Pair pair, String text) {
    for (char c : text.toCharArray()) due.is("write(" + c + ")", pair.tested().write(c), pair.model().write(c));
  }

  private static void call(Pair pair, Matcher called) throws Exception {
    String said = called.group(4);
    long want = said.matches("[A-Z]+") ? StillThere.class.getField(said).getInt(null) : Long.parseLong(said);
    String name = called.group(2);
    String[] told = called.group(3).isEmpty() ? new String[0] : called.group(3).split(", ");
    due.is(called.group(), answer(StillThere.class, pair.tested(), name, told), want);
    due.is("by the second reading: " + called.group(), answer(Model.class, pair.model(), name, told), want);
  }

  private static long answer(Class<?> of, Object asked, String name, String[] told) throws Exception {
    for (Method m : of.getDeclaredMethods()) {
      if (!m.getName().equals(name) || m.getParameterCount() != told.length) continue;
      Object[] given = new Object[told.length];
      for (int i = 0; i < given.length; i++) given[i] = number(told[i], m.getParameterTypes()[i]);
      return ((Number) m.invoke(asked, given)).longValue();
    }
    throw new IllegalStateException("no such call: " + name);
  }

  private static Object number(String told, Class<?> type) {
    if (type == boolean.class) return told.equals("true");
    long v = Long.parseLong(told.replace("L", ""));
    return type == long.class ? (Object) v : (Object) Math.toIntExact(v);
  }

  private static Set<String> publicNames() {
    Set<String> names = new TreeSet<>();
    for (Method m : StillThere.class.getDeclaredMethods()) {
      if (java.lang.reflect.Modifier.isPublic(m.getModifiers())) names.add(m.getName());
    }
    return names;
  }

  /** A row for each call of the document's face, in its order, with the refusals that its promise names. */
  private static void calls(String readme, String document) {
    List<String> rows = new ArrayList<>();
    Matcher row = Pattern.compile("(?m)^\\| `(\\w+\\(.*?\\))` \\|.*\\| ?(.*?) ?\\|$").matcher(readme);
    while (row.find()) rows.add(row.group(1) + " " + refusals(row.group(2)));
    List<String> face = new ArrayList<>();
    Matcher call = Pattern.compile("(?m)^ +public (?:int|long) (\\w+)(\\(.*\\));$").matcher(document);
    while (call.find()) face.add(call.group(1) + call.group(2) + " " + refusals(promise(document, call.group(1))));
    due.same("the table of calls", String.join("\n", rows), String.join("\n", face));
    due.is("calls of the face", face.size(), 26);
  }

  private static String promise(String document, String name) {
    Matcher m = Pattern.compile("## Promise \\d+: " + name + "\n([^#]*)").matcher(document);
    return m.find() ? m.group(1) : "no promise";
  }

  private static List<String> refusals(String text) {
    List<String> named = new ArrayList<>();
    Matcher m = Pattern.compile("\\b(UNKNOWN|OUTSIDE|STATE|FULL)\\b").matcher(text);
    while (m.find()) named.add(m.group());
    return named;
  }

  private static void tests(String readme) throws IOException {
    Set<String> told = new TreeSet<>();
    Matcher row = Pattern.compile("(?m)^\\| `(\\w+Test)` \\|").matcher(readme);
    while (row.find()) told.add(row.group(1));
    Set<String> there = new TreeSet<>();
    try (Stream<Path> files = Files.list(Path.of("src/test/java"))) {
      files.map(file -> file.getFileName().toString()).filter(name -> name.endsWith("Test.java"))
          .forEach(name -> there.add(name.replace(".java", "")));
    }
    due.same("the table of tests", told.toString(), there.toString());
  }

  private static void command(String readme) {
    due.is("the command is told", readme.contains("\n    .ci/run\n") ? 1 : 0, 1);
    due.is("it can be run", Files.isExecutable(Path.of(".ci/run")) ? 1 : 0, 1);
  }
}
