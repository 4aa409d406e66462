import java.lang.reflect.Constructor;
import java.lang.reflect.Field;
import java.lang.reflect.Method;
import java.lang.reflect.Modifier;
import java.nio.file.Files;
import java.nio.file.Path;
import java.util.ArrayList;
import java.util.Arrays;
import java.util.List;
import java.util.Set;
import java.util.TreeSet;
import java.util.regex.Matcher;
import java.util.regex.Pattern;

/** The public face, and those rules of LANGUAGE.md that can be looked at from outside. */
public final class FaceTest {
  private static final String[] FACE = {"int write(int)", "int wipe()", "int fault()", "int link()",
      "int end(int,int)", "int known(int,int)", "int way(int,int)", "int pass(int)", "int tell(int,int,int)",
      "int demand(int)", "int turn(int)", "int poll(int)", "int undo()", "int ahead(int,int)", "int letters(int)",
      "int judge(int,long)", "int see(int,int,int)", "int unsee()", "int which()", "int share(int,boolean)",
      "int luck(int,int,boolean)", "long seed(long)", "int drawn(int)", "int keep(int)", "int again(int)",
      "int count(int)"};
  private static final Due due = new Due("FaceTest");

  public static void main(String[] args) throws Exception {
    methods();
    documentsFace();
    headings();
    constantsAndFields();
    classes();
    source();
    objectsMade();
    due.end();
  }

  private static void methods() {
    Set<String> names = new TreeSet<>();
    Set<String> face = new TreeSet<>();
    for (Method m : StillThere.class.getDeclaredMethods()) {
      if (!Modifier.isPublic(m.getModifiers())) continue;
      names.add(m.getName());
      String types = String.join(",", Arrays.stream(m.getParameterTypes()).map(Class::getName).toList());
      face.add((Modifier.isStatic(m.getModifiers()) ? "static " : "") + m.getReturnType() + " " + m.getName() + "(" + types + ")");
    }
    due.same("the face", face.toString(), new TreeSet<>(List.of(FACE)).toString());
    for (Class<?> c : allClasses()) {
      for (Method m : c.getDeclaredMethods()) {
        boolean isFace = c == StillThere.class && Modifier.isPublic(m.getModifiers());
        if (isFace || m.isSynthetic()) continue;
        due.is("name of " + m, names.contains(m.getName()) ? 1 : 0, 0);
        due.is("parameters of " + m, m.getParameterCount() <= 7 ? 1 : 0, 1);
        if (c == StillThere.class) due.is("private " + m, Modifier.isPrivate(m.getModifiers()) ? 1 : 0, 1);
      }
    }
    Constructor<?>[] makers = StillThere.class.getDeclaredConstructors();
    due.is("constructors", makers.length, 1);
    due.is("of no parameter", makers[0].getParameterCount(), 0);
    due.is("public", Modifier.isPublic(makers[0].getModifiers()) ? 1 : 0, 1);
  }

  /** That what is looked for above is what the document's face says. */
  private static void documentsFace() throws Exception {
    String document = Files.readString(Path.of("../shared/DOC.md"));
    Matcher call = Pattern.compile("(?m)^ +public (int|long) (\\w+)\\((.*)\\);$").matcher(document);
    Set<String> face = new TreeSet<>();
    while (call.find()) {
      String types = call.group(3).replaceAll(" \\w+(, |$)", ",").replaceAll(",$", "");
      face.add(call.group(1) + " " + call.group(2) + "(" + types + ")");
    }
    due.same("the document's face", face.toString(), new TreeSet<>(List.of(FACE)).toString());
    String constants = "public static final int UNKNOWN = -1, OUTSIDE = -2, STATE = -3, FULL = -4, NONE = -9;";
    due.is("the document's constants", document.contains(constants) ? 1 : 0, 1);
  }

  /** What the interface says ahead of some calls stands ahead of just those in the class. */
  private static void headings() throws Exception {
    String document = Files.readString(Path.of("../shared/DOC.md"));
    Matcher said = Pattern.compile("Ahead of the calls (.*) the interface says: (---- .*)\\.").matcher(document);
    int found = 0;
    while (said.find()) {
      found++;
      int from = text().indexOf("    // " + said.group(2) + "\n");
      due.is("it stands in the class: " + said.group(2), from >= 0 ? 1 : 0, 1);
      if (from < 0) continue;
      int next = text().indexOf("    // ----", from + 1);
      String section = text().substring(from, next < 0 ? text().length() : next);
      Matcher call = Pattern.compile("(?m)^    public \\w+ (\\w+)\\(").matcher(section);
      List<String> calls = new ArrayList<>();
      while (call.find()) calls.add("`" + call.group(1) + "`");
      due.same("the calls behind " + said.group(2), String.join(", ", calls), said.group(1));
    }
    due.is("headings", found, 6);
  }

  private static void constantsAndFields() throws Exception {
    String[] names = {"UNKNOWN", "OUTSIDE", "STATE", "FULL", "NONE"};
    int[] values = {-1, -2, -3, -4, -9};
    for (int i = 0; i < names.length; i++) {
      due.is(names[i], StillThere.class.getField(names[i]).getInt(null), values[i]);
    }
    due.is("public fields", StillThere.class.getFields().length, names.length);
    for (Class<?> c : allClasses()) {
      int own = 0;
      for (Field f : c.getDeclaredFields()) {
        boolean isStatic = Modifier.isStatic(f.getModifiers());
        if (!isStatic) own++;
        due.is("static and final " + f, !isStatic || Modifier.isFinal(f.getModifiers()) ? 1 : 0, 1);
        boolean isPublic = Modifier.isPublic(f.getModifiers());
        if (c == StillThere.class && !isPublic) due.is("private " + f, Modifier.isPrivate(f.getModifiers()) ? 1 : 0, 1);
      }
      due.is("fields of " + c.getName(), own <= 20 ? 1 : 0, 1);
    }
  }

  private static void classes() {
    due.is("final", Modifier.isFinal(StillThere.class.getModifiers()) ? 1 : 0, 1);
    List<Class<?>> all = allClasses();
    due.is("classes", all.size() <= 12 ? 1 : 0, 1);
    for (Class<?> c : all) {
      if (c == StillThere.class) continue;
      int m = c.getModifiers();
      due.is("static, not public " + c, Modifier.isStatic(m) && !Modifier.isPublic(m) && !Modifier.isProtected(m) ? 1 : 0, 1);
    }
  }

  private static List<Class<?>> allClasses() {
    List<Class<?>> all = new ArrayList<>(List.of(StillThere.class));
    for (int i = 0; i < all.size(); i++) all.addAll(List.of(all.get(i).getDeclaredClasses()));
    return all;
  }

  private static String text() throws Exception {
    return Files.readString(Path.of("src/main/java/StillThere.java"));
  }

  private static String code() throws Exception {
    return text().replaceAll("(?s)/\\*.*?\\*/", "").replaceAll("//[^\n]*", "");
  }

  private static void source() throws Exception {
    String text = text();
    String code = code();
    String[] words = {"import", "package", "throw", "throws", "try", "catch", "finally", "synchronized", "assert",
        "System", "Object", "protected", "Random", "Thread", "var", "double", "float"};
    for (String word : words) {
      due.is("the word " + word, Pattern.compile("\\b" + word + "\\b").matcher(code).find() ? 1 : 0, 0);
    }
    for (String sign : new String[] {"->", "::", "@", "static {", "Exact", "while (true)", "for (;;)"}) {
      due.is("the sign " + sign, code.contains(sign) ? 1 : 0, 0);
    }
    Matcher body = Pattern.compile("(?m)^( +)[a-zA-Z][^\n;=]*\\) \\{\n((?:(?!\\1\\}\n).*\n)*)\\1\\}\n").matcher(code);
    int bodies = 0;
    while (body.find()) {
      bodies++;
      due.is("lines of " + body.group().strip().split("\n")[0], body.group().split("\n").length <= 60 ? 1 : 0, 1);
    }
    due.is("methods were found", bodies > 60 ? 1 : 0, 1);
    due.is("signs of 1 to 127 alone", text.chars().allMatch(c -> c > 0 && c < 128) ? 1 : 0, 1);
  }

  /** All calls of a run live in one room: objects are made with the object, none by a call. */
  private static void objectsMade() throws Exception {
    String code = code();
    int from = code.indexOf("public StillThere() {");
    String calls = code.substring(0, from) + code.substring(code.indexOf("\n    }\n", from));
    for (String line : calls.split("\n")) {
      if (!Pattern.compile("\\bnew\\b").matcher(line).find()) continue;
      due.is("made with a field: " + line.strip(), line.strip().startsWith("final ") ? 1 : 0, 1);
    }
  }
}
