import java.io.PrintWriter;
import java.io.StringWriter;
import java.lang.reflect.Constructor;
import java.lang.reflect.Field;
import java.lang.reflect.Method;
import java.lang.reflect.Modifier;
import java.nio.file.Files;
import java.nio.file.Path;
import java.util.ArrayList;
import java.util.Arrays;
import java.util.Collections;
import java.util.HashMap;
import java.util.HashSet;
import java.util.List;
import java.util.Map;
import java.util.Optional;
import java.util.Set;
import java.util.regex.Matcher;
import java.util.regex.Pattern;
import java.util.spi.ToolProvider;
import java.util.stream.Stream;

/** The public face is the document's, and the source keeps to what can be seen of LANGUAGE.md. */
public final class FaceTest {
  private static int wrong = 0;
  private static final String[] FACE = {
    "int type(int)", "int wipe()", "int undo()", "int fault()", "int tenant(int,int)",
    "int room(int)", "int event(int,int,int)", "int back()", "int read(int)", "int at(int,int,int)",
    "int live(int,int)", "int lift(int)", "int ends(int,int)", "int sum(int)", "int top()",
    "int heard()", "int earn(int,int)", "int be(int,int)", "int widen(int)", "int spare(int)",
    "int seen(int,int,int)", "int forget()", "int never()", "int was(int,int)", "int ask(int)",
    "long chance(int,int,int)", "int houses(int,int,int)", "int sheet(int,int,int)", "int lose(int)",
    "int lay(int,int,int,int)", "int get(int,int,int)", "int copy(int,int,int,int,int)",
    "int write(int,int)", "int count(int)", "long digest()"
  };

  private static void due(boolean good, String what) {
    if (!good) { wrong++; System.out.println("not as due: " + what); }
  }

  public static void main(String[] args) throws Exception {
    face();
    List<Class<?>> classes = new ArrayList<>(Arrays.asList(FloorAbove.class.getDeclaredClasses()));
    due(classes.size() < 12, "at most twelve classes");
    for (Class<?> c : classes) {
      due(Modifier.isStatic(c.getModifiers()), c + " is static");
      due(!Modifier.isPublic(c.getModifiers()) && !Modifier.isProtected(c.getModifiers()), c + " is not public");
    }
    classes.add(FloorAbove.class);
    for (Class<?> c : classes) members(c);
    String source = Files.readString(Path.of(args[0]));
    words(source.replaceAll("(?s)/\\*.*?\\*/", " ").replaceAll("//[^\n]*", " "));
    lengths(source);
    depth();
    System.out.println(wrong == 0 ? "the face is as due" : wrong + " things are not as due");
    if (wrong != 0) System.exit(1);
  }

  private static void face() {
    Set<String> want = new HashSet<>(Arrays.asList(FACE));
    Set<String> got = new HashSet<>();
    Set<String> names = new HashSet<>();
    for (Method m : FloorAbove.class.getDeclaredMethods()) {
      if (Modifier.isPrivate(m.getModifiers())) continue;
      due(Modifier.isPublic(m.getModifiers()) && !Modifier.isStatic(m.getModifiers()), m + " is public");
      List<String> types = new ArrayList<>();
      for (Class<?> t : m.getParameterTypes()) types.add(t.getName());
      got.add(m.getReturnType().getName() + " " + m.getName() + "(" + String.join(",", types) + ")");
      names.add(m.getName());
    }
    due(got.equals(want), "the methods: " + got);
    Constructor<?>[] made = FloorAbove.class.getDeclaredConstructors();
    due(made.length == 1 && made[0].getParameterCount() == 0 && Modifier.isPublic(made[0].getModifiers()),
        "one public constructor");
    Set<String> constants = new HashSet<>();
    for (Field f : FloorAbove.class.getDeclaredFields()) {
      if (!Modifier.isPrivate(f.getModifiers())) constants.add(f.getName());
    }
    due(constants.equals(Set.of("NONE", "BAD", "NOT", "FULL")), "the constants: " + constants);
    due(Modifier.isFinal(FloorAbove.class.getModifiers()), "the class is final");
    for (Method m : FloorAbove.class.getDeclaredMethods()) {
      due(!Modifier.isPrivate(m.getModifiers()) || !names.contains(m.getName()), m + " bears a public name");
    }
  }

  private static void members(Class<?> c) {
    int fields = 0;
    for (Field f : c.getDeclaredFields()) {
      if (Modifier.isStatic(f.getModifiers())) due(Modifier.isFinal(f.getModifiers()), f + " is final");
      else fields++;
    }
    due(fields <= 20, c + " has some twenty fields at most");
    for (Method m : c.getDeclaredMethods()) due(m.getParameterCount() <= 7, m + " takes seven at most");
  }

  private static void words(String code) {
    for (String word : new String[] {"throw", "throws", "try", "catch", "finally", "synchronized",
        "assert", "package", "protected", "volatile", "native", "strictfp", "transient", "var", "yield"}) {
      due(!Pattern.compile("\\b" + word + "\\b").matcher(code).find(), "no " + word);
    }
    due(!code.contains("->") && !code.contains("::"), "no lambda, no method reference");
    due(!code.contains("@"), "no annotation");
    due(!Pattern.compile("\\bstatic\\s*\\{").matcher(code).find(), "no static block");
    Set<String> imports = new HashSet<>();
    Matcher m = Pattern.compile("import\\s+([^;]+);").matcher(code);
    while (m.find()) imports.add(m.group(1));
    due(Set.of("java.util.Arrays", "java.util.ArrayList", "java.util.List").containsAll(imports),
        "the imports: " + imports);
    Set<String> library = new HashSet<>();
    m = Pattern.compile("\\b(Math|Integer|Long|System|Arrays|String|StringBuilder)\\.(\\w+)").matcher(code);
    while (m.find()) library.add(m.group());
    due(Set.of("Math.min", "Math.max", "Integer.bitCount", "Arrays.fill", "System.arraycopy")
        .containsAll(library), "the library: " + library);
  }

  /** Calls go at most eight deep, the library's own calls counted as one. */
  private static void depth() throws Exception {
    Optional<ToolProvider> javap = ToolProvider.findFirst("javap");
    if (javap.isEmpty()) {
      System.out.println("no javap: how deep calls go was not looked at");
      return;
    }
    Path classes = Path.of(FloorAbove.class.getProtectionDomain().getCodeSource().getLocation().toURI());
    List<String> args = new ArrayList<>(List.of("-c", "-p"));
    try (Stream<Path> files = Files.list(classes)) {
      files.filter(f -> f.getFileName().toString().startsWith("FloorAbove")).forEach(f -> args.add(f.toString()));
    }
    StringWriter out = new StringWriter();
    PrintWriter to = new PrintWriter(out);
    due(javap.get().run(to, to, args.toArray(new String[0])) == 0, "javap reads the classes");
    Map<String, Set<String>> calls = calls(out.toString().split("\n"));
    due(calls.containsKey("FloorAbove.digest"), "the calls of digest are seen");
    for (String method : calls.keySet()) {
      int deep = deep(method, calls, 20);
      due(deep <= 8, method + " calls at most eight deep, not " + deep);
    }
  }

  private static Map<String, Set<String>> calls(String[] lines) {
    Pattern type = Pattern.compile("^(?:\\w+ )*class ([\\w$]+)");
    Pattern head = Pattern.compile("^  \\S.*?([\\w$]+)\\(.*\\);$");
    Pattern call = Pattern.compile("invoke.*// (?:Interface)?Method ([^:]+):");
    Map<String, Set<String>> calls = new HashMap<>();
    String in = "";
    String method = "";
    for (String line : lines) {
      Matcher t = type.matcher(line);
      Matcher h = head.matcher(line);
      Matcher c = call.matcher(line);
      if (t.find()) in = t.group(1);
      else if (h.find()) calls.computeIfAbsent(method = in + "." + h.group(1), k -> new HashSet<>());
      else if (c.find()) calls.get(method).add(c.group(1).contains(".") ? c.group(1) : in + "." + c.group(1));
    }
    return calls;
  }

  /** A class has no two methods of one name that call on, so that the name will do. */
  private static int deep(String method, Map<String, Set<String>> calls, int most) {
    int deepest = 0;
    for (String each : calls.getOrDefault(method, Set.of())) {
      if (most > 0) deepest = Math.max(deepest, deep(each, calls, most - 1));
    }
    return deepest + 1;
  }

  /** A method begins at a line that opens a brace behind its parameters and ends at its own depth. */
  private static void lengths(String source) {
    String[] lines = source.split("\n");
    Pattern head = Pattern.compile("^( ++)(?!if|for|while|switch|else|return)[\\w\\[\\] ]+\\(.*\\) \\{$");
    for (int i = 0; i < lines.length; i++) {
      Matcher m = head.matcher(lines[i]);
      if (!m.find() || lines[i].contains(" class ")) continue;
      int end = Arrays.asList(lines).subList(i, lines.length).indexOf(m.group(1) + "}");
      due(end >= 0 && end <= 60, "some sixty lines at most: " + lines[i].trim());
    }
    due(Collections.max(Arrays.asList(lines), (a, b) -> a.length() - b.length()).length() <= 120, "short lines");
  }
}
