import java.lang.reflect.Method;
import java.nio.file.Files;
import java.nio.file.Path;
import java.util.Arrays;
import java.util.regex.Matcher;
import java.util.regex.Pattern;

/** The calls that README.md shows answer what it says behind them, and it names every call. */
public final class ReadmeTest {
  private static final Pattern TEXT = Pattern.compile("\"([^\"]*)\"\\.toCharArray");
  private static final Pattern CALL = Pattern.compile("x\\.(\\w+)\\(([^)]*)\\);\\s+// (-?\\d+)");
  private static int wrong = 0;

  private static void due(String call, Object got, Object want) {
    if (got.equals(want)) return;
    wrong++;
    System.out.println("README.md: " + call + " answered " + got + ", due is " + want);
  }

  public static void main(String[] args) throws Exception {
    Path root = Path.of(args[0]).toAbsolutePath().getParent().getParent().getParent().getParent();
    String page = Files.readString(root.resolve("README.md"));
    int shown = replay(page);
    due("some calls are shown", shown > 10, true);
    for (Method m : FloorAbove.class.getMethods()) {
      boolean own = m.getDeclaringClass() == FloorAbove.class;
      if (own) due(m.getName() + " is named", page.contains("`" + m.getName() + "`"), true);
    }
    System.out.println(wrong == 0 ? shown + " calls answer as README.md says" : wrong + " do not");
    if (wrong != 0) System.exit(1);
  }

  private static int replay(String page) throws Exception {
    FloorAbove x = new FloorAbove();
    int shown = 0;
    for (String line : page.split("\n")) {
      Matcher text = TEXT.matcher(line);
      if (text.find()) for (char b : text.group(1).toCharArray()) x.type(b);
      Matcher call = CALL.matcher(line);
      if (!call.find()) continue;
      shown++;
      String list = call.group(2).trim();
      Object[] numbers = list.isEmpty() ? new Object[0]
          : Arrays.stream(list.split(",")).map(n -> Integer.valueOf(n.trim())).toArray();
      Class<?>[] ints = new Class<?>[numbers.length];
      Arrays.fill(ints, int.class);
      Number got = (Number) FloorAbove.class.getMethod(call.group(1), ints).invoke(x, numbers);
      due(call.group(), got.longValue(), Long.valueOf(call.group(3)));
    }
    return shown;
  }
}
