import java.lang.reflect.Method;
import java.util.ArrayList;
import java.util.Arrays;
import java.util.Comparator;
import java.util.List;
import java.util.Random;

/** Long runs of chance calls, on the program and on PlainHouse, must be answered alike. */
public final class PlainHouseTest {
  private static final int[] ODD = {
    Integer.MIN_VALUE, Integer.MIN_VALUE + 1, -60, -2, -1, 8, 9, 12, 13, 16, 17, 23, 24, 31, 32, 60,
    61, 127, 128, 255, 256, 32767, 65535, Integer.MAX_VALUE - 1, Integer.MAX_VALUE
  };
  private static int wrong = 0;
  private static long calls = 0;

  public static void main(String[] args) throws Exception {
    List<Method> methods = new ArrayList<>();
    for (Method m : FloorAbove.class.getDeclaredMethods()) {
      if (java.lang.reflect.Modifier.isPublic(m.getModifiers())) methods.add(m);
    }
    methods.sort(Comparator.comparing(Method::getName));
    for (int run = 1; run <= 150 && wrong == 0; run++) oneRun(run, methods);
    System.out.println(wrong == 0 ? calls + " chance calls are answered alike" : "not alike");
    if (wrong != 0) System.exit(1);
  }

  private static void oneRun(int run, List<Method> methods) throws Exception {
    Random random = new Random(run);
    FloorAbove x = new FloorAbove();
    PlainHouse y = new PlainHouse();
    int digests = 0;
    fillHouse(random, x, y, run);
    for (int call = 0; call < 300 && wrong == 0; call++) {
      Method m = methods.get(random.nextInt(methods.size()));
      boolean dear = m.getName().equals("digest") || m.getName().equals("chance");
      if (dear && ++digests > 3) continue;
      if (m.getName().equals("wipe") && random.nextInt(4) != 0) continue;
      Object[] args = new Object[m.getParameterCount()];
      for (int i = 0; i < args.length; i++) args[i] = number(random, m.getName());
      alike(run, m, x, y, args);
      if (random.nextInt(40) == 0) fillHouse(random, x, y, run);
      if (random.nextInt(6) == 0) seeTruth(random, x, y, run);
    }
    alike(run, FloorAbove.class.getMethod("digest"), x, y);
  }

  /** Mostly small numbers, so that calls are seldom refused; now and then an odd one. */
  private static Integer number(Random random, String name) {
    if (random.nextInt(25) == 0) return ODD[random.nextInt(ODD.length)];
    if (name.equals("type")) return (int) "opcr0123456789;".charAt(random.nextInt(15));
    if (random.nextInt(3) == 0) return random.nextInt(25);
    return random.nextInt(4);
  }

  private static void fillHouse(Random random, FloorAbove x, PlainHouse y, int run) throws Exception {
    alike(run, method("wipe"), x, y);
    int n = random.nextInt(9);
    for (int t = 0; t < n; t++) {
      if (t > 0) alike(run, method("type"), x, y, (int) ';');
      alike(run, method("type"), x, y, (int) "opcr".charAt(random.nextInt(4)));
      alike(run, method("type"), x, y, '0' + random.nextInt(10));
      alike(run, method("type"), x, y, '0' + random.nextInt(random.nextInt(10) + 1));
    }
    int k = random.nextInt(9);
    for (int e = 0; e < k; e++) {
      int month = random.nextInt(random.nextInt(24) + 1);
      alike(run, method("event"), x, y, random.nextInt(3), month, random.nextInt(8));
    }
  }

  private static void seeTruth(Random random, FloorAbove x, PlainHouse y, int run) throws Exception {
    int month = random.nextInt(24);
    int tenant = random.nextInt(8);
    int floor = y.at(month, tenant, 0);
    if (floor != PlainHouse.LEAST) alike(run, method("seen"), x, y, month, tenant, floor);
    else alike(run, method("forget"), x, y);
  }

  private static Method method(String name) {
    for (Method m : FloorAbove.class.getMethods()) if (m.getName().equals(name)) return m;
    throw new IllegalStateException(name);
  }

  private static void alike(int run, Method m, FloorAbove x, PlainHouse y, Object... args)
      throws Exception {
    calls++;
    Object got = m.invoke(x, args);
    Object want = PlainHouse.class.getDeclaredMethod(m.getName(), m.getParameterTypes()).invoke(y, args);
    if (!got.equals(want)) {
      wrong++;
      System.out.println("run " + run + ", call " + calls + ": " + m.getName() + Arrays.toString(args)
          + " answered " + got + ", the plain house says " + want);
    }
  }
}
