import java.math.BigInteger;
import java.util.function.ToLongFunction;

/** The edges of SHEETS, count and digest (promises 29 to 36), and of refusals at large. */
public final class EdgesOfSheetsTest extends Edges {
  private static final int[] FINDINGS = {NULL, INDEX, CAST, STORE, SIZE};

  public static void main(String[] args) throws Exception {
    begin(args);
    making();
    laying();
    copying();
    writing();
    counting();
    refusing();
    end();
  }

  private static void making() {
    says("SHEETS 0 .. 3 are LOST (at first) or a row of a FORM", EdgesOfSheetsTest::fourSheets);
    says("a row of a FORM: 0 bytes, 1 shorts, 2 ints", EdgesOfSheetsTest::threeForms);
    says("of 0 to 60 items (0 at first)", EdgesOfSheetsTest::itemsAtFirst);
    says("A SHEET is a new row of a FORM with n items: n.", EdgesOfSheetsTest::sheetIsNew);
    says("BAD: SHEET, FORM, above 60; SIZE.", EdgesOfSheetsTest::sheetBad);
    says("5 SIZE: below 0", EdgesOfSheetsTest::sheetBelowZero);
    says("It is LOST: how many items it had. BAD; NULL.", EdgesOfSheetsTest::loses);
    says("1 NULL: the SHEET is LOST", EdgesOfSheetsTest::lostIsNull);
  }

  private static void laying() {
    says("becomes v (the lowest bits that it has): 1.", EdgesOfSheetsTest::layWraps);
    says("2 INDEX: there is no such item", EdgesOfSheetsTest::noSuchItem);
    says("3 CAST: it has another FORM", EdgesOfSheetsTest::anotherForm);
    says("BAD; NULL; CAST; INDEX.", EdgesOfSheetsTest::layRefusedInOrder);
    says("BAD: the least int; so are NULL, CAST, INDEX (count() 8 tells).", EdgesOfSheetsTest::getRefusedInOrder);
  }

  private static void copying() {
    says("n items of SHEET s, from i on, come to SHEET t", EdgesOfSheetsTest::copySpans);
    says("(perhaps s, as they were)", EdgesOfSheetsTest::copyUponItself);
    says("INDEX: below 0, not so many.", EdgesOfSheetsTest::copyIndex);
    says("4 STORE: unlike FORMS", EdgesOfSheetsTest::copyStore);
    says("BAD: the SHEETS; NULL: s, t; STORE; INDEX", EdgesOfSheetsTest::copyRefusedInOrder);
  }

  private static void writing() {
    says("from item 0 on, as many as there are items, 24 at most: how many.", EdgesOfSheetsTest::writeSizes);
    says("The FLOOR of one behind MONTHS 0 on comes to a SHEET", EdgesOfSheetsTest::writeFloors);
    says("24 at most: how many. BAD; NULL.", EdgesOfSheetsTest::writeRefused);
  }

  private static void counting() {
    says("0 TENANTS, 1 bytes of the text, 2 EVENTS, 3 SETTLED", EdgesOfSheetsTest::countsOfNothing);
    says("0 TENANTS, 1 bytes of the text, 2 EVENTS, 3 SETTLED", EdgesOfSheetsTest::countsOfAll);
    says("6 how many live on FLOORS 1 to 12 behind MONTH 23", EdgesOfSheetsTest::countOfLiving);
    says("8 the number of the latest FINDING (0 before any). BAD.", EdgesOfSheetsTest::countOfFinding);
    says("8 the number of the latest FINDING (0 before any). BAD.", EdgesOfSheetsTest::countBad);
    says("h is 17; h becomes 31 h and each of", EdgesOfSheetsTest::digestOfNothing);
    says("as longs that wrap", EdgesOfSheetsTest::digestWraps);
    says("houses(7, 6, 0 and 1)", EdgesOfSheetsTest::digestOfHouses);
    says("count() 0 to 7; fault();", EdgesOfSheetsTest::digestWithoutFinding);
    says("An object is used for at most 512 calls after it has been made", EdgesOfSheetsTest::lastCall);
  }

  private static void refusing() {
    says("They change nothing (FINDINGS but count() 8).", EdgesOfSheetsTest::refusalsChangeNothing);
    says("(answers -10 less the number; they change nothing but count() 8)", EdgesOfSheetsTest::findingsChangeNothing);
    says("Refusals, the first that fits, in the order told at each act", EdgesOfSheetsTest::badAheadOfFindings);
  }

  // ---- a row

  private static FloorAbove sheets(int form, int n) {
    FloorAbove x = new FloorAbove();
    for (int s = 0; s < 4; s++) x.sheet(s, form, n);
    return x;
  }

  private static void fourSheets() {
    FloorAbove x = new FloorAbove();
    for (int s = 0; s < 4; s++) {
      for (int t = s; t < 4; t++) due("lost still", x.read(t), NULL);
      due("sheet " + s, x.sheet(s, s % 3, s + 1), s + 1);
    }
    for (int s = 0; s < 4; s++) x.lay(s, s % 3, s, 40 + s);
    for (int s = 0; s < 4; s++) due("each its own", x.get(s, s % 3, s), 40 + s);
    for (int s = 0; s < 4; s++) due("each its own", x.lose(s), s + 1);
  }

  private static void threeForms() {
    for (int form = 0; form < 3; form++) {
      FloorAbove x = sheets(form, 2);
      for (int as = 0; as < 3; as++) due("lay", x.lay(0, as, 0, 5), as == form ? 1 : CAST);
      for (int as = 0; as < 3; as++) due("get", x.get(0, as, 0), as == form ? 5 : LEAST);
    }
  }

  private static void itemsAtFirst() {
    for (int form = 0; form < 3; form++) {
      FloorAbove x = new FloorAbove();
      due("60", x.sheet(0, form, 60), 60);
      for (int i = 0; i < 60; i++) due("0 at first", x.get(0, form, i), 0);
      due("the last", x.lay(0, form, 59, 7), 1);
      due("the last", x.get(0, form, 59), 7);
      due("none", x.sheet(0, form, 0), 0);
      due("not the first", x.get(0, form, 0), LEAST);
      due("index", x.count(8), 2);
      due("it is not lost", x.lose(0), 0);
    }
  }

  private static void sheetIsNew() {
    FloorAbove x = new FloorAbove();
    x.sheet(0, 2, 5);
    for (int i = 0; i < 5; i++) x.lay(0, 2, i, 9);
    due("again", x.sheet(0, 2, 5), 5);
    for (int i = 0; i < 5; i++) due("0 at first", x.get(0, 2, i), 0);
    x.lay(0, 2, 4, 9);
    due("shorter", x.sheet(0, 2, 3), 3);
    due("gone", x.get(0, 2, 4), LEAST);
    due("longer", x.sheet(0, 2, 6), 6);
    due("not come back", x.get(0, 2, 4), 0);
    x.lay(0, 2, 4, 9);
    x.lose(0);
    due("behind a loss", x.sheet(0, 2, 6), 6);
    due("0 at first", x.get(0, 2, 4), 0);
    due("another form", x.sheet(0, 1, 6), 6);
    due("no more an int", x.lay(0, 2, 0, 0), CAST);
    due("a short", x.lay(0, 1, 0, 0), 1);
  }

  private static void sheetBad() {
    FloorAbove x = new FloorAbove();
    outside("sheet", 0, 3, BAD, s -> x.sheet(s, 0, 1));
    outside("form", 0, 2, BAD, form -> x.sheet(0, form, 1));
    for (int n : new int[] {61, 62, 256, 65536, MAX}) due("n " + n, x.sheet(0, 0, n), BAD);
    outside("sheet ahead of size", 0, 3, BAD, s -> x.sheet(s, 0, -1));
    outside("form ahead of size", 0, 2, BAD, form -> x.sheet(0, form, -1));
    due("no finding", x.count(8), 0);
    due("still lost", x.lose(0), NULL);
  }

  private static void sheetBelowZero() {
    for (int n : new int[] {-1, -2, -60, -256, LEAST}) {
      FloorAbove x = new FloorAbove();
      due("n " + n, x.sheet(0, 0, n), SIZE);
      due("finding", x.count(8), 5);
      due("still lost", x.lose(0), NULL);
      x.sheet(0, 1, 4);
      x.lay(0, 1, 3, 8);
      due("n " + n, x.sheet(0, 0, n), SIZE);
      due("as it was", x.get(0, 1, 3), 8);
      due("as it was", x.lose(0), 4);
    }
  }

  private static void loses() {
    FloorAbove x = new FloorAbove();
    outside("lose", 0, 3, BAD, x::lose);
    due("no finding", x.count(8), 0);
    for (int n : new int[] {0, 1, 59, 60}) {
      for (int s = 0; s < 4; s++) {
        x.sheet(s, 0, n);
        due("had", x.lose(s), n);
        due("lost", x.lose(s), NULL);
      }
    }
    x.sheet(0, 0, 5);
    x.sheet(1, 0, 6);
    x.lose(0);
    due("the other is not", x.lose(1), 6);
  }

  private static void lostIsNull() {
    FloorAbove x = house("c30");
    for (int s = 0; s < 4; s++) {
      due("read", x.read(s), NULL);
      due("lose", x.lose(s), NULL);
      due("lay", x.lay(s, 0, 0, 0), NULL);
      due("get", x.get(s, 0, 0), LEAST);
      due("write", x.write(0, s), NULL);
      due("copy", x.copy(s, 0, s, 0, 0), NULL);
      due("finding", x.count(8), 1);
    }
    x.sheet(0, 0, 3);
    due("from a lost one", x.copy(1, 0, 0, 0, 0), NULL);
    due("to a lost one", x.copy(0, 0, 1, 0, 0), NULL);
  }

  // ---- items

  private static void layWraps() {
    FloorAbove x = new FloorAbove();
    for (int form = 0; form < 3; form++) x.sheet(form, form, 60);
    int[] numbers = {0, 1, -1, 127, 128, -128, -129, 255, 256, 257, 32767, 32768, -32768, -32769, 65535, 65536,
        65537, LEAST, LEAST + 1, MAX, 0x12348081};
    for (int v : numbers) {
      for (int form = 0; form < 3; form++) due("lay " + v, x.lay(form, form, 59, v), 1);
      due("a byte of " + v, x.get(0, 0, 59), (byte) v);
      due("a short of " + v, x.get(1, 1, 59), (short) v);
      due("an int of " + v, x.get(2, 2, 59), v);
    }
    due("a byte of 255", x.lay(0, 0, 0, 255) + x.get(0, 0, 0), 0);
    due("a short of 32768", x.lay(1, 1, 0, 32768) + x.get(1, 1, 0), 1 - 32768);
    due("those beside", x.get(0, 0, 58) + x.get(1, 1, 58) + x.get(2, 2, 58), 0);
  }

  private static void noSuchItem() {
    for (int n : new int[] {0, 1, 24, 60}) {
      FloorAbove x = sheets(0, n);
      outside("lay", 0, n - 1, INDEX, i -> x.lay(0, 0, i, 5));
      outside("get", 0, n - 1, LEAST, i -> x.get(0, 0, i));
      due("finding", x.count(8), 2);
      for (int i = 0; i < n; i++) due("as it was", x.get(0, 0, i), 0);
    }
  }

  private static void anotherForm() {
    for (int form = 0; form < 3; form++) {
      FloorAbove x = sheets(form, 2);
      x.lay(0, form, 0, 7);
      for (int as = 0; as < 3; as++) {
        if (as == form) continue;
        due("lay", x.lay(0, as, 0, 5), CAST);
        due("get", x.get(0, as, 0), LEAST);
        due("finding", x.count(8), 3);
      }
      due("as it was", x.get(0, form, 0), 7);
    }
  }

  private static void layRefusedInOrder() {
    FloorAbove x = new FloorAbove();
    outside("sheet", 0, 3, BAD, s -> x.lay(s, 0, 0, 0));
    outside("form ahead of null", 0, 2, BAD, form -> x.lay(0, form, 0, 0));
    due("no finding", x.count(8), 0);
    due("null ahead of index", x.lay(0, 0, -1, 0), NULL);
    x.sheet(0, 1, 3);
    outside("form ahead of cast", 0, 2, BAD, form -> x.lay(0, form, 0, 0));
    due("cast ahead of index", x.lay(0, 0, 3, 0), CAST);
    due("cast ahead of index", x.lay(0, 2, -1, 0), CAST);
    due("index", x.lay(0, 1, 3, 0), INDEX);
  }

  private static void getRefusedInOrder() {
    FloorAbove x = new FloorAbove();
    outside("sheet", 0, 3, LEAST, s -> x.get(s, 0, 0));
    outside("form", 0, 2, LEAST, form -> x.get(0, form, 0));
    due("no finding", x.count(8), 0);
    due("null", x.get(0, 0, -1), LEAST);
    due("null ahead of index", x.count(8), 1);
    x.sheet(0, 1, 3);
    due("cast", x.get(0, 2, 3), LEAST);
    due("cast ahead of index", x.count(8), 3);
    outside("form", 0, 2, LEAST, form -> x.get(0, form, 9));
    due("no new finding", x.count(8), 3);
    due("index", x.get(0, 1, 3), LEAST);
    due("index", x.count(8), 2);
    x.sheet(1, 2, 1);
    x.lay(1, 2, 0, LEAST);
    due("an item may be the least int", x.get(1, 2, 0), LEAST);
    due("which is no finding", x.count(8), 2);
  }

  // ---- copy

  private static FloorAbove counted(int form, int n) {
    FloorAbove x = new FloorAbove();
    x.sheet(0, form, n);
    for (int i = 0; i < n; i++) x.lay(0, form, i, i + 1);
    return x;
  }

  private static void row(FloorAbove x, int s, int form, int... items) {
    for (int i = 0; i < items.length; i++) due("item " + i + " of " + s, x.get(s, form, i), items[i]);
  }

  private static void copySpans() {
    for (int form = 0; form < 3; form++) {
      FloorAbove x = counted(form, 5);
      x.sheet(3, form, 3);
      due("none", x.copy(0, 0, 3, 0, 0), 1);
      due("none at the end", x.copy(0, 5, 3, 3, 0), 1);
      row(x, 3, form, 0, 0, 0);
      due("the last", x.copy(0, 4, 3, 2, 1), 1);
      row(x, 3, form, 0, 0, 5);
      due("all that there is place for", x.copy(0, 2, 3, 0, 3), 1);
      row(x, 3, form, 3, 4, 5);
      due("back", x.copy(3, 0, 0, 0, 3), 1);
      row(x, 0, form, 3, 4, 5, 4, 5);
    }
    FloorAbove x = counted(0, 60);
    x.sheet(1, 0, 60);
    due("60", x.copy(0, 0, 1, 0, 60), 1);
    for (int i = 0; i < 60; i++) due("item", x.get(1, 0, i), i + 1);
    x = sheets(2, 0);
    due("none of none", x.copy(0, 0, 1, 0, 0), 1);
  }

  private static void copyUponItself() {
    for (int form = 0; form < 3; form++) {
      FloorAbove x = counted(form, 5);
      due("up", x.copy(0, 0, 0, 2, 3), 1);
      row(x, 0, form, 1, 2, 1, 2, 3);
      x = counted(form, 5);
      due("down", x.copy(0, 1, 0, 0, 4), 1);
      row(x, 0, form, 2, 3, 4, 5, 5);
      x = counted(form, 5);
      due("where they are", x.copy(0, 0, 0, 0, 5), 1);
      row(x, 0, form, 1, 2, 3, 4, 5);
      due("none, behind the last", x.copy(0, 5, 0, 5, 0), 1);
    }
  }

  private static void copyIndex() {
    int[][] off = {{-1, 0, 1}, {0, -1, 1}, {0, 0, -1}, {-1, -1, -1}, {0, 0, 4}, {3, 0, 3}, {0, 1, 3}, {5, 0, 1},
        {0, 3, 1}, {6, 0, 0}, {0, 4, 0}, {-1, 0, 0}, {0, -1, 0}, {1, 0, MAX}, {0, 1, MAX}, {MAX, 0, 1}, {0, MAX, 1},
        {MAX, MAX, MAX}, {MAX, 0, 0}, {LEAST, 0, 0}, {0, LEAST, 0}, {0, 0, LEAST}, {LEAST, LEAST, LEAST},
        {2, 0, MAX - 1}, {1, 1, -1}, {5, 3, -1}, {6, 3, -1}};
    for (int[] o : off) {
      FloorAbove x = counted(2, 5);
      x.sheet(1, 2, 3);
      due(o[0] + ", " + o[1] + ", " + o[2], x.copy(0, o[0], 1, o[1], o[2]), INDEX);
      due("finding", x.count(8), 2);
      row(x, 1, 2, 0, 0, 0);
    }
    FloorAbove x = counted(2, 5);
    due("upon itself", x.copy(0, 0, 0, 2, 4), INDEX);
    row(x, 0, 2, 1, 2, 3, 4, 5);
  }

  private static void copyStore() {
    for (int from = 0; from < 3; from++) {
      for (int to = 0; to < 3; to++) {
        FloorAbove x = counted(from, 3);
        x.sheet(1, to, 3);
        due(from + " to " + to, x.copy(0, 0, 1, 0, 3), from == to ? 1 : STORE);
        due("none too", x.copy(0, 0, 1, 0, 0), from == to ? 1 : STORE);
        due("finding", x.count(8), from == to ? 0 : 4);
        due("what is there", x.get(1, to, 2), from == to ? 3 : 0);
      }
    }
  }

  private static void copyRefusedInOrder() {
    FloorAbove x = new FloorAbove();
    outside("s", 0, 3, BAD, s -> x.copy(s, 0, 0, 0, 0));
    outside("t ahead of null", 0, 3, BAD, t -> x.copy(0, 0, t, 0, 0));
    due("no finding", x.count(8), 0);
    due("null ahead of index", x.copy(0, -1, 1, 0, 0), NULL);
    x.sheet(0, 1, 3);
    outside("t ahead of index", 0, 3, BAD, t -> x.copy(0, -1, t, 0, 0));
    due("t is lost: null ahead of index", x.copy(0, -1, 1, 0, 0), NULL);
    due("s is lost: null ahead of index", x.copy(1, 0, 0, -1, 0), NULL);
    x.sheet(1, 2, 3);
    due("store ahead of index", x.copy(0, -1, 1, 0, 0), STORE);
    due("store ahead of index", x.copy(0, 0, 1, 0, 4), STORE);
    x.sheet(1, 1, 3);
    due("index", x.copy(0, 0, 1, 0, 4), INDEX);
  }

  // ---- write

  private static void writeSizes() {
    for (int n : new int[] {0, 1, 2, 23, 24, 25, 60}) {
      FloorAbove x = house("c30");
      x.sheet(1, 0, n);
      for (int i = 0; i < n; i++) x.lay(1, 0, i, 77);
      due("of " + n + " items", x.write(0, 1), Math.min(n, 24));
      for (int i = 0; i < n; i++) due("item " + i, x.get(1, 0, i), i < 24 ? 4 : 77);
      due("as many as there were", x.lose(1), n);
    }
  }

  private static void writeFloors() {
    for (int form = 0; form < 3; form++) {
      FloorAbove x = house("c90;o50;r00;p99");
      x.sheet(0, form, 24);
      for (int t = 0; t < 4; t++) {
        due("write", x.write(t, 0), 24);
        for (int m = 0; m < 24; m++) due("month " + m, x.get(0, form, m), x.at(m, t, 0));
      }
      due("12", x.get(0, form, 0), 12);
      x.write(2, 0);
      due("the landing", x.get(0, form, 0), 0);
      due("the cellar", x.get(0, form, 23), -1);
    }
  }

  private static void writeRefused() {
    FloorAbove x = house("c30;c20");
    outside("tenant ahead of null", 0, 1, BAD, t -> x.write(t, 0));
    outside("sheet", 0, 3, BAD, s -> x.write(0, s));
    due("no finding", x.count(8), 0);
    due("lost", x.write(0, 0), NULL);
    due("finding", x.count(8), 1);
    x.sheet(0, 0, 5);
    outside("tenant", 0, 1, BAD, t -> x.write(t, 0));
    for (int i = 0; i < 5; i++) due("as it was", x.get(0, 0, i), 0);
    x.wipe();
    due("nobody", x.write(0, 0), BAD);
  }

  // ---- count, digest

  private static void countsOfNothing() {
    FloorAbove x = new FloorAbove();
    for (int what = 0; what <= 8; what++) due("count " + what, x.count(what), what == 5 ? 2 : 0);
  }

  private static void countsOfAll() {
    FloorAbove x = house(times(8, "o01"));
    for (int t = 0; t < 8; t++) x.event(BILL, 3, t);
    for (int t = 0; t < 8; t++) x.seen(0, t, 0);
    x.room(8);
    int[] want = {8, 31, 8, 8, 8, 8, 0, 8, 0};
    for (int what = 0; what <= 8; what++) due("count " + what, x.count(what), want[what]);
  }

  private static void countOfLiving() {
    due("all", roomFor(8, house(times(8, "c00"))).count(6), 8);
    due("not on the landing", roomFor(1, house(times(8, "c00"))).count(6), 1);
    due("not in the cellar", house("o00;c00").count(6), 1);
    due("on 12", house("p99").count(6), 1);
    due("behind month 23", with(house("o01;c00"), BILL, 23, 0).count(6), 1);
    due("behind month 23", with(house("c00"), AUDIT, 23, 0).count(6), 0);
    due("not behind 22", with(house("c00"), AUDIT, 22, 0).count(6), 1);
  }

  private static void countOfFinding() {
    FloorAbove x = sheets(0, 2);
    x.sheet(1, 1, 2);
    due("before any", x.count(8), 0);
    due("size", x.sheet(0, 0, -1), SIZE);
    due("5", x.count(8), 5);
    due("store", x.copy(0, 0, 1, 0, 1), STORE);
    due("4", x.count(8), 4);
    due("cast", x.lay(0, 1, 0, 1), CAST);
    due("3", x.count(8), 3);
    due("index", x.lay(0, 0, 2, 1), INDEX);
    due("2", x.count(8), 2);
    x.lose(2);
    due("null", x.lose(2), NULL);
    due("1", x.count(8), 1);
    due("bad is none", x.lose(4), BAD);
    due("not is none", x.back(), NOT);
    due("what goes well is none", x.lay(0, 0, 0, 1), 1);
    due("the latest", x.count(8), 1);
  }

  private static void countBad() {
    outside("count", 0, 8, BAD, new FloorAbove()::count);
    outside("count", 0, 8, BAD, house(EIGHT)::count);
  }

  private static BigInteger h;

  private static void put(long v) {
    h = h.multiply(BigInteger.valueOf(31)).add(BigInteger.valueOf(v));
  }

  /** The digest as one number that never wraps, cut to its lowest 64 bits at the end. */
  private static long digested(FloorAbove x) {
    h = BigInteger.valueOf(17);
    for (int what = 0; what <= 7; what++) put(x.count(what));
    put(x.fault());
    for (int m = 0; m <= 23; m++) put(x.lift(m));
    for (int f = 0; f <= 12; f++) {
      put(x.live(3, f));
      put(x.live(9, f));
      put(x.live(23, f));
    }
    for (int t = 0; t < x.count(0); t++) digestedOf(x, t);
    for (int what = 0; what <= 3; what++) put(x.sum(what));
    put(x.top());
    put(x.heard());
    for (int what = 0; what <= 2; what++) put(x.widen(what));
    put(x.spare(NONE));
    put(x.spare(0));
    put(x.never());
    put(x.houses(7, 6, 0));
    put(x.houses(7, 6, 1));
    return h.longValue();
  }

  private static void digestedOf(FloorAbove x, int t) {
    for (int what = 0; what <= 2; what++) put(x.tenant(t, what));
    for (int m : new int[] {0, 6, 13, 23}) {
      for (int what = 0; what <= 3; what++) put(x.at(m, t, what));
    }
    for (int what = 0; what <= 3; what++) put(x.ends(t, what));
    for (int what = 0; what <= 2; what++) put(x.earn(t, what));
    for (int what = 0; what <= 2; what++) put(x.be(t, what));
    put(x.was(t, 0));
    put(x.was(t, 1));
    put(x.ask(t));
    put(x.chance(5, t, 0));
    put(x.chance(5, t, 1));
  }

  private static void digestOfNothing() {
    due("new", new FloorAbove().digest(), digested(new FloorAbove()));
    FloorAbove x = house("o50;");
    due("with a fault", x.digest(), digested(x));
    due("of other bytes, with another fault", house("o5").digest(), digested(house("o5")));
  }

  private static void digestWraps() {
    FloorAbove x = full();
    long first = x.digest();
    due("full", first, digested(full()));
    due("again", x.digest(), first);
    due("one tenant", house("p99").digest(), digested(house("p99")));
    FloorAbove y = with(house("o01;c50"), AUDIT, 2, 0, AUDIT, 3, 0, AUDIT, 5, 0, BILL, 8, 0, AUDIT, 9, 0, BILL, 9, 0,
        GIFT, 23, 1);
    due("two to be spared, and a last gift", y.digest(), digested(y));
  }

  /** Houses of SEED 7 in which each of these numbers, and the sixth of six, can be told. */
  private static void digestOfHouses() {
    int[][] events = {{BILL, 6, 3, BILL, 10, 6, BILL, 1, 3, BILL, 20, 3}, {GIFT, 3, 5}, eightBills(5), eightBills(6)};
    for (int room = 1; room <= 3; room++) {
      for (int[] each : events) {
        FloorAbove x = roomFor(room, with(new FloorAbove(), each));
        due("digest", x.digest(), digested(x));
      }
    }
  }

  private static int[] eightBills(int number) {
    int[] bills = new int[24];
    for (int i = 0; i < 24; i += 3) {
      bills[i] = BILL;
      bills[i + 1] = 5;
      bills[i + 2] = number;
    }
    return bills;
  }

  private static void digestWithoutFinding() {
    FloorAbove x = full();
    long first = x.digest();
    x.lose(3);
    x.lose(3);
    due("finding", x.count(8), 1);
    due("digest", x.digest(), first);
    x.sheet(3, 0, 9);
    due("nor sheets", x.digest(), first);
    x.back();
    due("but events", x.digest() == first ? 1 : 0, 0);
  }

  /** 7 calls, 63 times 8, and the digest: 512. */
  private static void lastCall() {
    FloorAbove x = house("c30;c20");
    for (int n = 0; n < 63; n++) {
      due("event", x.event(BILL, n % 24, 0), 1);
      due("left", x.at(23, 0, 1), 5);
      due("seen", x.seen(n % 24, 0, 2), 1);
      due("never", x.never(), 0);
      due("sheet", x.sheet(n % 4, n % 3, n % 61), n % 61);
      due("lose", x.lose(n % 4), n % 61);
      due("forget", x.forget(), 1);
      due("back", x.back(), 0);
    }
    due("the last call", x.digest(), house("c30;c20").digest());
  }

  // ---- refusals

  /** Of everything as much as there may be. */
  private static FloorAbove full() {
    FloorAbove x = with(house("o50;c30;r12;p07;o01;r04;c99;p33"), BILL, 1, 0, GIFT, 6, 2, AUDIT, 9, 2, BILL, 4, 4,
        BILL, 4, 3, BILL, 11, 7, GIFT, 23, 6, BILL, 12, 6);
    for (int m = 0; m < 24; m += 3) x.seen(m, 0, x.at(m, 0, 0));
    for (int s = 0; s < 3; s++) {
      x.sheet(s, s, 4);
      for (int i = 0; i < 4; i++) x.lay(s, s, i, 10 * s + i);
    }
    return x;
  }

  private static final int REFUSALS = 36;

  /** A refused call of each kind; the answer is whether it was refused as due. */
  private static boolean refused(FloorAbove x, int n) {
    switch (n) {
      case 0: return x.type('o') == FULL;
      case 1: return x.type(256) == BAD;
      case 2: return x.tenant(8, 0) == BAD;
      case 3: return x.room(0) == BAD;
      case 4: return x.room(9) == BAD;
      case 5: return x.event(BILL, 0, 0) == FULL;
      case 6: return x.event(3, 0, 0) == BAD;
      case 7: return x.read(-1) == BAD;
      case 8: return x.at(24, 0, 0) == LEAST;
      case 9: return x.live(0, 13) == BAD;
      case 10: return x.lift(-1) == BAD;
      case 11: return x.ends(0, 4) == LEAST;
      case 12: return x.sum(4) == BAD;
      case 13: return x.earn(8, 0) == BAD;
      case 14: return x.be(0, 3) == BAD;
      case 15: return x.widen(-1) == BAD;
      case 16: return x.spare(2) == BAD;
      case 17: return x.seen(0, 0, 0) == FULL;
      case 18: return x.seen(0, 8, 0) == BAD;
      case 19: return x.was(0, 2) == BAD;
      case 20: return x.ask(-1) == BAD;
      case 21: return x.chance(17, 0, 0) == Long.MIN_VALUE + 2;
      case 22: return x.houses(7, 9, 0) == BAD;
      case 23: return x.sheet(0, 0, 61) == BAD;
      case 24: return x.sheet(3, 3, 0) == BAD;
      case 25: return x.lose(4) == BAD;
      case 26: return x.lay(0, 3, 0, 5) == BAD;
      case 27: return x.get(4, 0, 0) == LEAST;
      case 28: return x.copy(0, 0, 4, 0, 1) == BAD;
      case 29: return x.write(8, 0) == BAD;
      case 30: return x.write(0, 4) == BAD;
      case 31: return x.count(9) == BAD;
      case 32: return x.room(LEAST) == BAD;
      case 33: return x.type(-1) == BAD;
      case 34: return x.event(BILL, 24, 0) == BAD;
      default: return x.houses(7, 6, 2) == BAD;
    }
  }

  private static void refusalsChangeNothing() {
    for (int n = 0; n < REFUSALS; n++) {
      FloorAbove x = full();
      due("refusal " + n, refused(x, n) ? 1 : 0, 1);
      due("finding behind refusal " + n, x.count(8), 0);
      twins("refusal " + n, x, full());
    }
    FloorAbove x = new FloorAbove();
    due("undo", x.undo(), NOT);
    due("back", x.back(), NOT);
    due("as new", x.digest(), new FloorAbove().digest());
    due("text", x.type('o'), 1);
    due("events", x.event(0, 0, 0), 1);
  }

  private static void findingsChangeNothing() {
    for (int number = 1; number <= 5; number++) {
      for (int call = 0; call < 9; call++) {
        FloorAbove x = full();
        int answer = finding(x, number, call);
        due("finding " + number, answer, FINDINGS[number - 1]);
        due("its number", x.count(8), number);
        due("as the answer says", answer, -10 - x.count(8));
        twins("finding " + number + " of call " + call, x, full());
      }
    }
  }

  /** A call with that finding; SHEET 3 is LOST, the others are of FORMS 0, 1, 2. */
  private static int finding(FloorAbove x, int number, int call) {
    switch (number) {
      case 1:
        switch (call) {
          case 0: return x.read(3);
          case 1: return x.lose(3);
          case 2: return x.lay(3, 0, 0, 1);
          case 3: return x.copy(3, 0, 0, 0, 1);
          case 4: return x.copy(0, 0, 3, 0, 1);
          case 5: return x.write(0, 3);
          default: return x.get(3, 0, 0) == LEAST ? NULL : 0;
        }
      case 2:
        switch (call) {
          case 0: return x.lay(0, 0, 4, 1);
          case 1: return x.lay(0, 0, -1, 1);
          case 2: return x.copy(1, 0, 1, 1, 4);
          case 3: return x.copy(1, 1, 1, 0, 4);
          case 4: return x.copy(1, 1, 1, 0, -1);
          default: return x.get(2, 2, 4) == LEAST ? INDEX : 0;
        }
      case 3:
        return call % 2 == 0 ? x.lay(call % 3, (call + 1) % 3, 0, 1) : x.get(0, 1, 0) == LEAST ? CAST : 0;
      case 4:
        return x.copy(call % 3, 0, (call + 1) % 3, 0, call % 4);
      default:
        return x.sheet(call % 4, call % 3, -1 - call);
    }
  }

  /** Both must answer alike, to the last byte, EVENT, SEEN and item. */
  private static void twins(String call, FloorAbove x, FloorAbove y) {
    alike(call + ", digest", x, y, FloorAbove::digest);
    for (int s = 0; s < 3; s++) {
      int sheet = s;
      for (int i = 0; i < 4; i++) {
        int item = i;
        alike(call + ", item", x, y, z -> z.get(sheet, sheet, item));
      }
      alike(call + ", lose", x, y, z -> z.lose(sheet));
    }
    alike(call + ", the lost one", x, y, z -> z.lose(3));
    alike(call + ", forget", x, y, FloorAbove::forget);
    alike(call + ", digest without seen", x, y, FloorAbove::digest);
    for (int e = 0; e < 9; e++) {
      alike(call + ", back", x, y, FloorAbove::back);
      alike(call + ", owed without an event", x, y, z -> z.sum(3));
      alike(call + ", living without an event", x, y, z -> z.at(23, 6, 1));
    }
    for (int b = 0; b < 32; b++) {
      alike(call + ", undo", x, y, FloorAbove::undo);
      alike(call + ", fault", x, y, FloorAbove::fault);
    }
  }

  private static void alike(String call, FloorAbove x, FloorAbove y, ToLongFunction<FloorAbove> of) {
    due(call, of.applyAsLong(x), of.applyAsLong(y));
  }

  private static void badAheadOfFindings() {
    FloorAbove x = new FloorAbove();
    due("lay", x.lay(0, 3, -1, 0), BAD);
    due("copy", x.copy(0, -1, 4, -1, -1), BAD);
    due("write", x.write(0, 0), BAD);
    due("sheet", x.sheet(4, 3, -1), BAD);
    due("get", x.get(0, 3, -1), LEAST);
    due("read", x.read(4), BAD);
    due("lose", x.lose(4), BAD);
    due("no finding", x.count(8), 0);
  }
}
