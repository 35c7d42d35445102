import java.lang.reflect.Array;
import java.math.BigInteger;
import java.util.ArrayList;
import java.util.Arrays;
import java.util.Comparator;
import java.util.HashMap;
import java.util.List;
import java.util.Map;

/**
 * The document once more, with the Java library, as slowly and plainly as can be: nothing is kept
 * but what was told, and each answer is worked out anew. It shares no line with the program.
 */
final class PlainHouse {
  static final int LEAST = Integer.MIN_VALUE;

  record Tenant(char sort, int paid, int wage) {}
  record Event(int kind, int month, int number) {}
  record Sight(int month, int tenant, int floor) {}
  record Day(List<Integer> floors, List<Integer> lefts, List<Boolean> fell, List<Integer> past) {}

  StringBuilder text = new StringBuilder();
  List<Event> events = new ArrayList<>();
  List<Sight> sights = new ArrayList<>();
  Object[] sheets = new Object[4];
  int room = 2;
  int finding = 0;

  // ---- tenants, room, events

  int type(int b) {
    if (b < 0 || b > 255) return -2;
    if (text.length() == 31) return -4;
    text.append((char) b);
    return text.length();
  }

  int wipe() { int n = text.length(); text.setLength(0); return n; }

  int undo() {
    if (text.length() == 0) return -3;
    text.setLength(text.length() - 1);
    return text.length();
  }

  /** The longest beginning of the text that some well text begins with ends at the FAULT. */
  int fault() {
    String t = text.toString();
    if (t.isEmpty() || t.matches("[opcr][0-9][0-9](;[opcr][0-9][0-9]){0,7}")) return -1;
    for (int n = t.length(); n >= 0; n--) {
      if (t.substring(0, n).matches("([opcr][0-9][0-9];){0,7}([opcr]([0-9]([0-9])?)?)?")) return n;
    }
    throw new IllegalStateException();
  }

  List<Tenant> tenants() {
    List<Tenant> all = new ArrayList<>();
    if (fault() != -1 || text.length() == 0) return all;
    for (String one : text.toString().split(";")) {
      all.add(new Tenant(one.charAt(0), one.charAt(1) - '0', one.charAt(2) - '0'));
    }
    return all;
  }

  boolean isOne(int tenant) { return tenant >= 0 && tenant < tenants().size(); }

  int tenant(int tenant, int what) {
    if (!isOne(tenant) || what < 0 || what > 2) return -2;
    Tenant one = tenants().get(tenant);
    return what == 0 ? "opcr".indexOf(one.sort) : what == 1 ? one.paid : one.wage;
  }

  int room(int v) {
    if (v < 1 || v > 8) return -2;
    int old = room;
    room = v;
    return old;
  }

  int event(int kind, int month, int number) {
    if (kind < 0 || kind > 2 || month < 0 || month > 23 || number < 0 || number > 7) return -2;
    if (events.size() == 8) return -4;
    events.add(new Event(kind, month, number));
    return events.size();
  }

  int back() {
    if (events.isEmpty()) return -3;
    events.remove(events.size() - 1);
    return events.size();
  }

  int read(int s) {
    if (s < 0 || s > 3) return -2;
    if (sheets[s] == null) return finding(1);
    int n = 0;
    while (3 * n + 3 <= Array.getLength(sheets[s])
        && event(item(s, 3 * n), item(s, 3 * n + 1), item(s, 3 * n + 2)) > 0) n++;
    return n;
  }

  // ---- months

  List<Day> days(List<Tenant> who, List<Event> what, int space) {
    int n = who.size();
    int[] left = new int[n];
    int[] floor = new int[n];
    for (int t = 0; t < n; t++) left[t] = 3 * who.get(t).paid;
    List<Day> all = new ArrayList<>();
    for (int month = 0; month < 24; month++) {
      int[] old = floor.clone();
      boolean audit = false;
      for (Event e : what) {
        if (e.month != month) continue;
        if (e.kind == 2) audit = true;
        else if (e.number < n && floor[e.number] >= 0) left[e.number] += e.kind == 0 ? -4 : 3;
      }
      List<Integer> row = new ArrayList<>();
      for (int t = 0; t < n; t++) {
        if (old[t] < 0) continue;
        Tenant one = who.get(t);
        int wage = one.sort == 'c' ? one.wage / 2 : one.wage;
        int rent = one.sort == 'c' ? 0 : old[t] / 2 + (one.sort == 'p' ? 0 : 1);
        left[t] += wage - rent;
        if (left[t] > 60) left[t] = 60;
        if (left[t] < 0 && (one.sort != 'r' || left[t] < -6)) floor[t] = -1;
        else row.add(t);
      }
      row.sort(Comparator.comparing((Integer t) -> -left[t]).thenComparing(t -> t));
      Map<Integer, Integer> inside = new HashMap<>();
      for (int t : row) {
        int want = left[t] < 0 ? 0 : left[t] / 3 + (audit ? 0 : 1);
        if (want > 12) want = 12;
        while (want > 0 && inside.getOrDefault(want, 0) == space) want--;
        inside.merge(want, 1, Integer::sum);
        floor[t] = want;
      }
      all.add(day(old, floor, left));
    }
    return all;
  }

  private static Day day(int[] old, int[] floor, int[] left) {
    Day day = new Day(new ArrayList<>(), new ArrayList<>(), new ArrayList<>(), new ArrayList<>());
    for (int t = 0; t < floor.length; t++) {
      int low = floor[t], high = old[t];
      boolean fell = high - low >= 2;
      day.floors.add(low);
      day.lefts.add(left[t]);
      day.fell.add(fell);
      day.past.add(fell ? (int) Arrays.stream(floor).filter(f -> low < f && f < high).count() : 0);
    }
    return day;
  }

  List<Day> days() { return days(tenants(), events, room); }

  static boolean owes(Day day, int t) {
    int left = day.lefts.get(t);
    return left < 0 ? day.floors.get(t) > 0 : day.floors.get(t) > left / 3;
  }

  int at(int month, int tenant, int what) {
    if (month < 0 || month > 23 || !isOne(tenant) || what < 0 || what > 3) return LEAST;
    Day day = days().get(month);
    if (what == 0) return day.floors.get(tenant);
    if (what == 1) return day.lefts.get(tenant);
    if (what == 2) return owes(day, tenant) ? 1 : 0;
    return day.fell.get(tenant) ? 1 : 0;
  }

  int live(int month, int floor) {
    if (month < 0 || month > 23 || floor < 0 || floor > 12) return -2;
    int bits = 0;
    Day day = days().get(month);
    for (int t = 0; t < day.floors.size(); t++) if (day.floors.get(t) == floor) bits += 1 << t;
    return bits;
  }

  int lift(int month) {
    if (month < 0 || month > 23) return -2;
    int bits = 0;
    Day day = days().get(month);
    for (int f = 1; f <= 12; f++) {
      boolean any = false, owed = false;
      for (int t = 0; t < day.floors.size(); t++) {
        if (day.floors.get(t) != f) continue;
        any = true;
        owed |= owes(day, t);
      }
      if (any && !owed) bits += 1 << f;
    }
    return bits;
  }

  static int settledAt(List<Day> days, int t) {
    for (int m = 0; m < 24; m++) if (days.get(m).floors.get(t) == -1) return m;
    return -1;
  }

  static int settled(List<Day> days) {
    return (int) days.get(23).floors.stream().filter(f -> f == -1).count();
  }

  static int fell(List<Day> days) {
    return days.stream().mapToInt(d -> (int) d.fell.stream().filter(f -> f).count()).sum();
  }

  int ends(int tenant, int what) {
    if (!isOne(tenant) || what < 0 || what > 3) return LEAST;
    List<Day> days = days();
    if (what == 0) return settledAt(days, tenant);
    if (what == 1) return (int) days.stream().filter(d -> d.fell.get(tenant)).count();
    if (what == 2) return days.stream().mapToInt(d -> d.past.get(tenant)).sum();
    return days.stream().mapToInt(d -> d.floors.get(tenant)).max().getAsInt();
  }

  int sum(int what) {
    if (what < 0 || what > 3) return -2;
    int n = 0;
    for (int t = 0; t < tenants().size(); t++) {
      if (what == 0) n += ends(t, 0) == -1 ? 0 : 1;
      else if (what < 3) n += ends(t, what);
      else for (int m = 0; m < 24; m++) n += at(m, t, 2);
    }
    return n;
  }

  int top() {
    int top = -1;
    for (int t = tenants().size() - 1; t >= 0; t--) {
      if (at(23, t, 0) >= 0 && (top < 0 || at(23, t, 0) >= at(23, top, 0))) top = t;
    }
    return top;
  }

  int heard() {
    boolean[] lived = new boolean[13];
    for (Day d : days()) for (int f : d.floors) if (f > 0) lived[f] = true;
    int bits = 0;
    for (int f = 1; f <= 12; f++) {
      for (int g = f + 1; g <= 12; g++) if (!lived[f] && lived[g]) bits |= 1 << f;
    }
    return bits;
  }

  // ---- plans

  static List<Tenant> changed(List<Tenant> who, int tenant, char sort, int wage) {
    List<Tenant> others = new ArrayList<>(who);
    others.set(tenant, new Tenant(sort, who.get(tenant).paid, wage));
    return others;
  }

  List<Day> withWage(int t, int wage) {
    return days(changed(tenants(), t, tenants().get(t).sort, wage), events, room);
  }

  List<Day> withSort(int t, int sort) {
    return days(changed(tenants(), t, "opcr".charAt(sort), tenants().get(t).wage), events, room);
  }

  static int best(List<List<Day>> plans, int first, int what) {
    int best = 0;
    for (int i = 1; i < plans.size(); i++) {
      int more = Integer.compare(settled(plans.get(i)), settled(plans.get(best)));
      if (more == 0) more = Integer.compare(fell(plans.get(i)), fell(plans.get(best)));
      if (more < 0) best = i;
    }
    return what == 0 ? first + best : what == 1 ? settled(plans.get(best)) : fell(plans.get(best));
  }

  int earn(int tenant, int what) {
    if (!isOne(tenant) || what < 0 || what > 2) return -2;
    List<List<Day>> plans = new ArrayList<>();
    for (int w = 0; w < 10; w++) plans.add(withWage(tenant, w));
    return best(plans, 0, what);
  }

  int be(int tenant, int what) {
    if (!isOne(tenant) || what < 0 || what > 2) return -2;
    List<List<Day>> plans = new ArrayList<>();
    for (int s = 0; s < 4; s++) plans.add(withSort(tenant, s));
    return best(plans, 0, what);
  }

  int widen(int what) {
    if (what < 0 || what > 2) return -2;
    List<List<Day>> plans = new ArrayList<>();
    for (int r = 1; r <= 8; r++) plans.add(days(tenants(), events, r));
    return best(plans, 1, what);
  }

  List<Event> without(int... gone) {
    List<Event> rest = new ArrayList<>();
    for (int e = 0; e < events.size(); e++) {
      int event = e;
      if (Arrays.stream(gone).noneMatch(g -> g == event)) rest.add(events.get(e));
    }
    return rest;
  }

  boolean helps(int... gone) { return settled(days(tenants(), without(gone), room)) == 0; }

  int[] spared() {
    if (helps()) return new int[0];
    for (int a = 0; a < events.size(); a++) if (helps(a)) return new int[] {a};
    for (int a = 0; a < events.size(); a++) {
      for (int b = a + 1; b < events.size(); b++) if (helps(a, b)) return new int[] {a, b};
    }
    return null;
  }

  int spare(int i) {
    if (i < -1 || i > 1) return -2;
    int[] row = spared();
    if (row == null) return -1;
    return i == -1 ? row.length : i < row.length ? row[i] : -1;
  }

  // ---- seen, chance, houses

  int seen(int month, int tenant, int floor) {
    if (month < 0 || month > 23 || tenant < 0 || tenant > 7 || floor < -1 || floor > 12) return -2;
    if (sights.size() == 8) return -4;
    sights.add(new Sight(month, tenant, floor));
    return sights.size();
  }

  int forget() { int n = sights.size(); sights.clear(); return n; }

  boolean fits(List<Day> days) {
    for (Sight s : sights) {
      List<Integer> floors = days.get(s.month).floors;
      if (s.tenant >= floors.size() || floors.get(s.tenant) != s.floor) return false;
    }
    return true;
  }

  int never() {
    int bits = 0;
    for (int e = 0; e < events.size(); e++) {
      if (fits(days(tenants(), without(e), room))) bits |= 1 << e;
    }
    return bits;
  }

  int was(int tenant, int what) {
    if (!isOne(tenant) || what < 0 || what > 1) return -2;
    int bits = 0;
    for (int v = 0; v < (what == 0 ? 10 : 4); v++) {
      if (fits(what == 0 ? withWage(tenant, v) : withSort(tenant, v))) bits |= 1 << v;
    }
    return bits;
  }

  int ask(int tenant) {
    if (!isOne(tenant)) return -2;
    int best = -1, least = 99;
    List<List<Day>> fitting = new ArrayList<>();
    for (int w = 0; w < 10; w++) if (fits(withWage(tenant, w))) fitting.add(withWage(tenant, w));
    for (int m = 0; m < 24; m++) {
      Map<List<Integer>, Integer> groups = new HashMap<>();
      for (List<Day> days : fitting) groups.merge(days.get(m).floors, 1, Integer::sum);
      int most = groups.values().stream().mapToInt(n -> n).max().orElse(0);
      if (most < least) { least = most; best = m; }
    }
    return best;
  }

  long chance(int c, int tenant, int what) {
    if (c < 0 || c > 16 || !isOne(tenant) || what < 0 || what > 1) return Long.MIN_VALUE + 2;
    BigInteger above = BigInteger.ZERO;
    BigInteger below = BigInteger.valueOf(16).pow(events.size());
    for (int set = 0; set < 1 << events.size(); set++) {
      List<Event> happen = new ArrayList<>();
      BigInteger weight = BigInteger.ONE;
      for (int e = 0; e < events.size(); e++) {
        boolean is = (set & 1 << e) != 0;
        if (is) happen.add(events.get(e));
        weight = weight.multiply(BigInteger.valueOf(is ? c : 16 - c));
      }
      if (settledAt(days(tenants(), happen, room), tenant) != -1) above = above.add(weight);
    }
    BigInteger common = above.gcd(below);
    return (what == 0 ? above : below).divide(common).longValueExact();
  }

  int houses(int seed, int n, int what) {
    if (n < 0 || n > 8 || what < 0 || what > 1) return -2;
    int[] lots = new int[24];
    long state = seed & 0xffffffffL;
    for (int i = 0; i < 24; i++) {
      state = (1103515245L * state + 12345L) & 0xffffffffL;
      lots[i] = (int) (state / 65536 % (i % 3 == 0 ? 4 : 10));
    }
    List<Tenant> who = new ArrayList<>();
    for (int t = 0; t < n; t++) {
      who.add(new Tenant("opcr".charAt(lots[3 * t]), lots[3 * t + 1], lots[3 * t + 2]));
    }
    List<Day> days = days(who, events, room);
    return what == 0 ? settled(days) : fell(days);
  }

  // ---- sheets

  int finding(int number) { finding = number; return -10 - number; }

  static int form(Object sheet) { return sheet instanceof byte[] ? 0 : sheet instanceof short[] ? 1 : 2; }

  int item(int s, int i) {
    Object sheet = sheets[s];
    return sheet instanceof byte[] b ? b[i] : sheet instanceof short[] h ? h[i] : ((int[]) sheet)[i];
  }

  void set(int s, int i, int v) {
    Object sheet = sheets[s];
    if (sheet instanceof byte[] b) b[i] = (byte) v;
    else if (sheet instanceof short[] h) h[i] = (short) v;
    else ((int[]) sheet)[i] = v;
  }

  int sheet(int s, int form, int n) {
    if (s < 0 || s > 3 || form < 0 || form > 2 || n > 60) return -2;
    if (n < 0) return finding(5);
    sheets[s] = form == 0 ? new byte[n] : form == 1 ? new short[n] : new int[n];
    return n;
  }

  int lose(int s) {
    if (s < 0 || s > 3) return -2;
    if (sheets[s] == null) return finding(1);
    int n = Array.getLength(sheets[s]);
    sheets[s] = null;
    return n;
  }

  int flaw(int s, int form, int i) {
    if (sheets[s] == null) return 1;
    if (form(sheets[s]) != form) return 3;
    return i < 0 || i >= Array.getLength(sheets[s]) ? 2 : 0;
  }

  int lay(int s, int form, int i, int v) {
    if (s < 0 || s > 3 || form < 0 || form > 2) return -2;
    if (flaw(s, form, i) != 0) return finding(flaw(s, form, i));
    set(s, i, v);
    return 1;
  }

  int get(int s, int form, int i) {
    if (s < 0 || s > 3 || form < 0 || form > 2) return LEAST;
    if (flaw(s, form, i) != 0) { finding = flaw(s, form, i); return LEAST; }
    return item(s, i);
  }

  int copy(int s, int i, int t, int j, int n) {
    if (s < 0 || s > 3 || t < 0 || t > 3) return -2;
    if (sheets[s] == null || sheets[t] == null) return finding(1);
    if (form(sheets[s]) != form(sheets[t])) return finding(4);
    if (i < 0 || j < 0 || n < 0 || (long) i + n > Array.getLength(sheets[s])
        || (long) j + n > Array.getLength(sheets[t])) return finding(2);
    int[] taken = new int[n];
    for (int k = 0; k < n; k++) taken[k] = item(s, i + k);
    for (int k = 0; k < n; k++) set(t, j + k, taken[k]);
    return 1;
  }

  int write(int tenant, int s) {
    if (!isOne(tenant) || s < 0 || s > 3) return -2;
    if (sheets[s] == null) return finding(1);
    int n = Math.min(24, Array.getLength(sheets[s]));
    for (int m = 0; m < n; m++) set(s, m, at(m, tenant, 0));
    return n;
  }

  int count(int what) {
    return switch (what) {
      case 0 -> tenants().size();
      case 1 -> text.length();
      case 2 -> events.size();
      case 3 -> sum(0);
      case 4 -> sum(1);
      case 5 -> room;
      case 6 -> (int) days().get(23).floors.stream().filter(f -> f >= 1).count();
      case 7 -> sights.size();
      case 8 -> finding;
      default -> -2;
    };
  }

  long digest() {
    List<Long> row = new ArrayList<>();
    for (int i = 0; i <= 7; i++) row.add((long) count(i));
    row.add((long) fault());
    for (int m = 0; m < 24; m++) row.add((long) lift(m));
    for (int f = 0; f <= 12; f++) for (int m : new int[] {3, 9, 23}) row.add((long) live(m, f));
    for (int t = 0; t < tenants().size(); t++) {
      for (int i = 0; i < 3; i++) row.add((long) tenant(t, i));
      for (int m : new int[] {0, 6, 13, 23}) for (int i = 0; i < 4; i++) row.add((long) at(m, t, i));
      for (int i = 0; i < 4; i++) row.add((long) ends(t, i));
      for (int i = 0; i < 3; i++) row.add((long) earn(t, i));
      for (int i = 0; i < 3; i++) row.add((long) be(t, i));
      for (int i = 0; i < 2; i++) row.add((long) was(t, i));
      row.add((long) ask(t));
      for (int i = 0; i < 2; i++) row.add(chance(5, t, i));
    }
    for (int i = 0; i < 4; i++) row.add((long) sum(i));
    row.add((long) top());
    row.add((long) heard());
    for (int i = 0; i < 3; i++) row.add((long) widen(i));
    row.add((long) spare(-1));
    row.add((long) spare(0));
    row.add((long) never());
    row.add((long) houses(7, 6, 0));
    row.add((long) houses(7, 6, 1));
    long h = 17;
    for (long v : row) h = 31 * h + v;
    return h;
  }
}
