import java.lang.reflect.Method;
import java.lang.reflect.Modifier;
import java.util.Arrays;
import java.util.HashMap;
import java.util.HashSet;
import java.util.List;
import java.util.Map;
import java.util.Random;
import java.util.Set;
import java.util.TreeMap;

/**
 * Long runs of chance calls, on the program and on PlainHouse, must be answered alike. Calls that
 * are refused tell little, so it is a fault of the test if a call was seldom taken or had few answers.
 */
public final class PlainHouseTest {
  private static final int RUNS = 300;
  private static final int CALLS = 512;
  private static final int TAKEN = 150;
  private static final int[] ODD = {
    Integer.MIN_VALUE, Integer.MIN_VALUE + 1, -60, -2, -1, 8, 9, 12, 13, 16, 17, 23, 24, 31, 32, 60,
    61, 127, 128, 255, 256, 32767, 65535, Integer.MAX_VALUE - 1, Integer.MAX_VALUE
  };
  /** The least and the most of each number, then how many unlike answers there must be. */
  private static final Map<String, int[]> CALL = Map.ofEntries(
      Map.entry("type", new int[] {0, 255, 31}), Map.entry("wipe", new int[] {20}),
      Map.entry("undo", new int[] {10}), Map.entry("fault", new int[] {10}),
      Map.entry("tenant", new int[] {0, 7, 0, 2, 10}), Map.entry("room", new int[] {1, 8, 8}),
      Map.entry("event", new int[] {0, 2, 0, 23, 0, 7, 8}), Map.entry("back", new int[] {8}),
      Map.entry("read", new int[] {0, 3, 7}), Map.entry("at", new int[] {0, 23, 0, 7, 0, 3, 30}),
      Map.entry("live", new int[] {0, 23, 0, 12, 40}), Map.entry("lift", new int[] {0, 23, 25}),
      Map.entry("ends", new int[] {0, 7, 0, 3, 15}), Map.entry("sum", new int[] {0, 3, 40}),
      Map.entry("top", new int[] {9}), Map.entry("heard", new int[] {30}),
      Map.entry("earn", new int[] {0, 7, 0, 2, 10}), Map.entry("be", new int[] {0, 7, 0, 2, 10}),
      Map.entry("widen", new int[] {0, 2, 8}), Map.entry("spare", new int[] {-1, 1, 8}),
      Map.entry("seen", new int[] {0, 23, 0, 7, -1, 12, 8}), Map.entry("forget", new int[] {9}),
      Map.entry("never", new int[] {25}), Map.entry("was", new int[] {0, 7, 0, 1, 16}),
      Map.entry("ask", new int[] {0, 7, 9}), Map.entry("chance", new int[] {0, 16, 0, 7, 0, 1, 60}),
      Map.entry("houses", new int[] {-99999, 99999, 0, 8, 0, 1, 7}),
      Map.entry("sheet", new int[] {0, 3, 0, 2, 0, 60, 50}), Map.entry("lose", new int[] {0, 3, 40}),
      Map.entry("lay", new int[] {0, 3, 0, 2, 0, 11, -40000, 40000, 1}),
      Map.entry("get", new int[] {0, 3, 0, 2, 0, 11, 500}),
      Map.entry("copy", new int[] {0, 3, 0, 8, 0, 3, 0, 8, 0, 9, 1}),
      Map.entry("write", new int[] {0, 7, 0, 3, 20}), Map.entry("count", new int[] {0, 8, 18}),
      Map.entry("digest", new int[] {300}));
  /** These undo what the rest needs, and these are dear: they are seldom called. */
  private static final Set<String> SELDOM = Set.of("type", "wipe", "undo", "lose", "digest");
  private static final Map<String, Method> METHODS = new TreeMap<>();

  private final Random random;
  private final FloorAbove x = new FloorAbove();
  private final PlainHouse y = new PlainHouse();
  private final int run;
  private int calls = 0;

  private static final Map<String, Integer> taken = new HashMap<>();
  private static final Map<String, Set<Object>> answers = new HashMap<>();
  private static long total = 0;
  private static int wrong = 0;

  /** Seeds side by side give first houses that are nearly alike, so they are spread. */
  private PlainHouseTest(int run) {
    this.run = run;
    random = new Random(run * 0x9E3779B97F4A7C15L);
  }

  public static void main(String[] args) throws Exception {
    for (Method m : FloorAbove.class.getDeclaredMethods()) {
      if (Modifier.isPublic(m.getModifiers())) METHODS.put(m.getName(), m);
    }
    for (int run = 1; run <= RUNS && wrong == 0; run++) new PlainHouseTest(run).go();
    if (wrong == 0) reach();
    System.out.println(wrong == 0 ? total + " chance calls are answered alike" : "not alike");
    if (wrong != 0) System.exit(1);
  }

  private static void reach() {
    for (String name : METHODS.keySet()) {
      int[] row = CALL.get(name);
      int many = taken.getOrDefault(name, 0);
      int unlike = answers.getOrDefault(name, Set.of()).size();
      if (many < TAKEN || unlike < row[row.length - 1]) {
        wrong++;
        System.out.println(name + " was taken " + many + " times, with " + unlike + " unlike answers");
      }
    }
  }

  private void go() throws Exception {
    List<String> names = List.copyOf(METHODS.keySet());
    build();
    while (calls < CALLS - 100 && wrong == 0) {
      String name = names.get(random.nextInt(names.size()));
      if (SELDOM.contains(name) && random.nextInt(5) != 0) continue;
      alike(name, numbers(name));
      if (y.tenants().isEmpty() ? random.nextInt(4) == 0 : random.nextInt(80) == 0) build();
      if (random.nextInt(6) == 0) see();
      if (random.nextInt(30) == 0) useSheet();
      if (random.nextInt(40) == 0) undoEvents();
    }
    if (wrong == 0) alike("digest");
  }

  private int[] numbers(String name) {
    int[] row = CALL.get(name);
    int[] numbers = new int[row.length / 2];
    for (int i = 0; i < numbers.length; i++) {
      boolean odd = random.nextInt(25) == 0;
      numbers[i] = odd ? ODD[random.nextInt(ODD.length)] : between(row[2 * i], row[2 * i + 1]);
    }
    if (name.equals("type") && random.nextBoolean()) numbers[0] = "opcr0123456789;".charAt(random.nextInt(15));
    boolean formed = name.equals("lay") || name.equals("get");
    if (formed && numbers[0] >= 0 && numbers[0] < 4 && random.nextInt(4) != 0) numbers[1] = form(numbers[0]);
    return numbers;
  }

  private int between(int least, int most) {
    return least + random.nextInt(most - least + 1);
  }

  private int form(int s) {
    return y.sheets[s] == null ? 0 : PlainHouse.form(y.sheets[s]);
  }

  /**
   * A poor house hangs by its EVENTS: small WAGES, nobody carried, all EVENTS for the first two. A rich
   * one comes to the most of LEFT, and its EVENTS, late and close together, go past that.
   */
  private void build() throws Exception {
    int luck = random.nextInt(4);
    boolean poor = luck < 2;
    boolean rich = luck == 2;
    int n = Math.max(random.nextInt(9), random.nextInt(9));
    alike("wipe");
    for (int t = 0; t < n; t++) {
      if (t > 0) alike("type", ';');
      alike("type", "oprc".charAt(random.nextInt(poor ? 3 : 4)));
      alike("type", '0' + random.nextInt(poor ? 4 : 10));
      int wage = poor ? between(1, 2) : rich ? between(8, 9) : random.nextInt(random.nextInt(10) + 1);
      alike("type", '0' + wage);
    }
    if (poor || rich) undoEvents();
    for (int e = random.nextInt(9); e > 0; e--) {
      int kind = poor || rich ? random.nextInt(5) / 2 : random.nextInt(3);
      int month = rich ? between(17, 19) : random.nextInt(random.nextInt(24) + 1);
      alike("event", kind, month, random.nextInt(poor || rich ? 2 : Math.min(8, n + 1)));
    }
    if (poor && n > 0) askChance(random.nextInt(17), random.nextInt(Math.min(2, n)));
    if (rich && n > 0) alike("at", between(17, 19), random.nextInt(Math.min(2, n)), 1);
  }

  /** At once, while no other call has changed the EVENTS by which the house hangs. */
  private void askChance(int c, int tenant) throws Exception {
    for (int what = 0; what <= 1; what++) alike("chance", c, tenant, what);
    for (int i = -1; i <= 1; i++) alike("spare", i);
  }

  private void undoEvents() throws Exception {
    for (int e = y.events.size(); e > 0; e--) alike("back");
  }

  /** What is SEEN comes out so, mostly, or else there would be nothing to find out by it. */
  private void see() throws Exception {
    int month = random.nextInt(24);
    int tenant = random.nextInt(8);
    int floor = y.at(month, tenant, 0);
    if (floor == PlainHouse.LEAST || random.nextInt(3) == 0) alike("forget");
    else alike("seen", month, tenant, floor);
  }

  private void useSheet() throws Exception {
    int s = random.nextInt(4);
    int t = random.nextInt(4);
    if (y.sheets[s] == null || random.nextInt(5) == 0) alike("sheet", s, random.nextInt(3), random.nextInt(61));
    if (form(t) != form(s)) alike("sheet", t, form(s), between(3, 20));
    for (int i = 0; i < 6; i++) alike("lay", s, form(s), i, random.nextInt(i % 3 == 1 ? 25 : 3));
    if (random.nextInt(3) == 0) alike("read", s);
    alike("copy", s, random.nextInt(4), t, random.nextInt(4), random.nextInt(8));
    alike("get", t, form(t), random.nextInt(8));
    alike("lay", t, form(t), 1, random.nextInt());
    alike("get", t, form(t), 1);
    alike("write", random.nextInt(8), t);
    alike("get", t, form(t), random.nextInt(24));
  }

  private void alike(String name, int... numbers) throws Exception {
    if (calls >= CALLS) return;
    calls++;
    total++;
    Method m = METHODS.get(name);
    Object[] args = Arrays.stream(numbers).boxed().toArray();
    Object got = m.invoke(x, args);
    Object want = PlainHouse.class.getDeclaredMethod(name, m.getParameterTypes()).invoke(y, args);
    if (!got.equals(want)) {
      wrong++;
      System.out.println("run " + run + ", call " + calls + ": " + name + Arrays.toString(args)
          + " answered " + got + ", the plain house says " + want);
    }
    if (name.equals("digest") || !refusal(((Number) want).longValue())) {
      taken.merge(name, 1, Integer::sum);
      answers.computeIfAbsent(name, k -> new HashSet<>()).add(want);
    }
  }

  private static boolean refusal(long answer) {
    return answer == PlainHouse.LEAST || answer <= Long.MIN_VALUE + 15 || answer >= -15 && answer <= -2;
  }
}
