/** Each promise by hand: ordinary inputs, the edges that the document names, wrong inputs. */
public final class PromisesTest {
  private static final int LEAST = Integer.MIN_VALUE;
  private static final int MAX = Integer.MAX_VALUE;
  private static int wrong = 0;
  private static int promise = 0;

  private static void due(String call, long got, long want) {
    if (got == want) return;
    wrong++;
    System.out.println("promise " + promise + ": " + call + " answered " + got + ", due is " + want);
  }

  private static FloorAbove house(String text) {
    FloorAbove x = new FloorAbove();
    for (char b : text.toCharArray()) x.type(b);
    return x;
  }

  public static void main(String[] args) {
    promise = 1; newObject();
    promise = 2; type();
    promise = 3; wipe();
    promise = 4; undo();
    promise = 5; fault();
    promise = 6; tenant();
    promise = 7; room();
    promise = 8; event();
    promise = 9; back();
    promise = 10; read();
    promise = 11; at(); rents(); audits(); caps();
    promise = 12; live();
    promise = 13; lift();
    promise = 14; ends();
    promise = 15; sum();
    promise = 16; top();
    promise = 17; heard();
    promise = 18; earn();
    promise = 19; be();
    promise = 20; widen();
    promise = 21; spare();
    promise = 22; seen();
    promise = 23; forget();
    promise = 24; never();
    promise = 25; was();
    promise = 26; ask();
    promise = 27; chance();
    promise = 28; houses();
    promise = 29; sheet();
    promise = 30; lose();
    promise = 31; lay();
    promise = 32; get();
    promise = 33; copy();
    promise = 34; write();
    promise = 35; count();
    promise = 36; digest();
    System.out.println(wrong == 0 ? "all promises hold" : wrong + " answers are not as due");
    if (wrong != 0) System.exit(1);
  }

  private static void newObject() {
    FloorAbove x = new FloorAbove();
    for (int what = 0; what <= 8; what++) due("count", x.count(what), what == 5 ? 2 : 0);
    for (int s = 0; s < 4; s++) due("lose", x.lose(s), -11);
    due("NONE", FloorAbove.NONE, -1);
    due("BAD", FloorAbove.BAD, -2);
    due("NOT", FloorAbove.NOT, -3);
    due("FULL", FloorAbove.FULL, -4);
  }

  private static void type() {
    FloorAbove x = new FloorAbove();
    due("below 0", x.type(-1), -2);
    due("least", x.type(LEAST), -2);
    due("above 255", x.type(256), -2);
    due("0", x.type(0), 1);
    due("255", x.type(255), 2);
    for (int n = 3; n <= 31; n++) due("more", x.type(59), n);
    due("full", x.type(59), -4);
    due("bad is told ahead of full", x.type(256), -2);
    due("bytes", x.count(1), 31);
  }

  private static void wipe() {
    FloorAbove x = house("o12;p3");
    due("wipe", x.wipe(), 6);
    due("again", x.wipe(), 0);
    due("fault", x.fault(), -1);
    x = house("c10");
    due("lives", x.live(23, 2), 1);
    x.wipe();
    due("nobody lives", x.live(23, 2), 0);
  }

  private static void undo() {
    FloorAbove x = house("o12;");
    due("tenants", x.count(0), 0);
    due("undo", x.undo(), 3);
    due("tenants", x.count(0), 1);
    due("undo", x.undo(), 2);
    due("undo", x.undo(), 1);
    due("undo", x.undo(), 0);
    due("empty", x.undo(), -3);
  }

  private static void fault() {
    String[] well = {"", "o00", "p99", "c50;r01", "o00;p11;c22;r33;o44;p55;c66;r77"};
    for (String text : well) due(text, house(text).fault(), -1);
    String[] ill = {"x", "O11", "1", ";", "oo", "o:", "o/", "o1o", "o1;", "o11o", "o111", "o11;;", "o11;x"};
    int[] place = {0, 0, 0, 0, 1, 1, 1, 2, 2, 3, 3, 4, 4};
    for (int i = 0; i < ill.length; i++) due(ill[i], house(ill[i]).fault(), place[i]);
    String[] open = {"o", "o1", "o11;", "o11;p", "o11;p2"};
    for (String text : open) due(text, house(text).fault(), text.length());
    FloorAbove x = house("o1");
    x.type(0);
    due("a byte 0", x.fault(), 2);
    x = house("c10;");
    due("as if it was empty", x.count(0), 0);
    due("as if it was empty", x.live(23, 2), 0);
  }

  private static void tenant() {
    FloorAbove x = house("o12;p34;c56;r78");
    for (int t = 0; t < 4; t++) {
      due("sort", x.tenant(t, 0), t);
      due("paid", x.tenant(t, 1), 2 * t + 1);
      due("wage", x.tenant(t, 2), 2 * t + 2);
    }
    due("no such one", x.tenant(4, 0), -2);
    due("no such one", x.tenant(-1, 0), -2);
    due("what", x.tenant(0, 3), -2);
    due("what", x.tenant(0, -1), -2);
    x.type(59);
    due("with a fault", x.tenant(0, 0), -2);
  }

  private static void room() {
    FloorAbove x = house("c10;c10;c10");
    due("what it was", x.room(1), 2);
    due("on 2", x.live(0, 2), 1);
    due("on 1", x.live(0, 1), 2);
    due("on the landing", x.live(0, 0), 4);
    due("what it was", x.room(8), 1);
    due("on 2", x.live(0, 2), 7);
    due("0", x.room(0), -2);
    due("9", x.room(9), -2);
    due("least", x.room(LEAST), -2);
    due("unchanged", x.count(5), 8);
  }

  private static void event() {
    FloorAbove x = house("c30");
    due("kind", x.event(3, 0, 0), -2);
    due("kind", x.event(-1, 0, 0), -2);
    due("month", x.event(0, 24, 0), -2);
    due("month", x.event(0, -1, 0), -2);
    due("number", x.event(0, 0, 8), -2);
    due("number", x.event(0, 0, -1), -2);
    due("bill", x.event(0, 2, 0), 1);
    due("gift", x.event(1, 4, 0), 2);
    due("audit", x.event(2, 6, 7), 3);
    due("of one that there is not", x.event(0, 0, 5), 4);
    int[] left = {9, 9, 5, 5, 8, 8, 8, 8};
    int[] floor = {4, 4, 2, 2, 3, 3, 2, 3};
    for (int m = 0; m < 8; m++) {
      due("left", x.at(m, 0, 1), left[m]);
      due("floor", x.at(m, 0, 0), floor[m]);
    }
    for (int n = 5; n <= 8; n++) due("more", x.event(2, 23, 0), n);
    due("full", x.event(0, 0, 0), -4);
    due("bad is told ahead of full", x.event(0, 0, 8), -2);
  }

  private static void back() {
    FloorAbove x = house("c30");
    due("none", x.back(), -3);
    x.event(0, 2, 0);
    x.event(1, 2, 0);
    due("left", x.at(2, 0, 1), 8);
    due("back", x.back(), 1);
    due("left", x.at(2, 0, 1), 5);
    due("back", x.back(), 0);
    due("left", x.at(2, 0, 1), 9);
    due("none", x.back(), -3);
  }

  private static void read() {
    FloorAbove x = house("c90");
    due("sheet", x.read(4), -2);
    due("sheet", x.read(-1), -2);
    due("finding", x.count(8), 0);
    due("lost", x.read(0), -11);
    due("finding", x.count(8), 1);
    x.sheet(0, 0, 8);
    int[] items = {1, 2, 0, 0, 3, 7, 0, 4};
    for (int i = 0; i < 8; i++) x.lay(0, 0, i, items[i]);
    x.event(2, 0, 0);
    due("two are whole", x.read(0), 2);
    due("they come behind what is", x.count(2), 3);
    due("the gift", x.at(2, 0, 1), 30);
    x.back();
    x.back();
    due("the first is as it was", x.at(0, 0, 0), 9);
    x.lay(0, 0, 4, 24);
    due("the second may not be", x.read(0), 1);
    x.sheet(1, 2, 60);
    due("as long as there is place", x.read(1), 6);
    due("eight", x.count(2), 8);
    due("no place", x.read(1), 0);
    x.sheet(2, 1, 2);
    due("none is whole", x.read(2), 0);
    x.sheet(2, 1, 0);
    due("empty", x.read(2), 0);
    x = house("c90");
    x.sheet(3, 1, 3);
    due("the last sheet, just whole", x.read(3), 1);
    due("a bill in month 0", x.at(0, 0, 1), 23);
  }

  private static void at() {
    FloorAbove x = house("o50");
    int[] floor = {5, 4, 3, 3, 2, 1, 1, 1, -1, -1};
    int[] left = {14, 11, 8, 6, 4, 2, 1, 0, -1, -1};
    for (int m = 0; m < 24; m++) {
      due("floor", x.at(m, 0, 0), floor[Math.min(m, 9)]);
      due("left", x.at(m, 0, 1), left[Math.min(m, 9)]);
      due("owes", x.at(m, 0, 2), m < 8 ? 1 : 0);
      due("fell", x.at(m, 0, 3), m == 8 ? 1 : 0);
    }
    due("month", x.at(24, 0, 0), LEAST);
    due("month", x.at(-1, 0, 0), LEAST);
    due("tenant", x.at(0, 1, 0), LEAST);
    due("tenant", x.at(0, -1, 0), LEAST);
    due("what", x.at(0, 0, 4), LEAST);
    due("what", x.at(0, 0, -1), LEAST);
    x = house("c50");
    x.event(0, 2, 0);
    due("two floors are a fall", x.at(1, 0, 0) - x.at(2, 0, 0), 2);
    due("fell", x.at(2, 0, 3), 1);
    x = house("c60");
    x.event(0, 2, 0);
    x.event(1, 2, 0);
    due("one floor is none", x.at(1, 0, 0) - x.at(2, 0, 0), 1);
    due("fell", x.at(2, 0, 3), 0);
  }

  private static void rents() {
    due("ordinary", house("o59").at(1, 0, 1), 15 + 9 - 1 + 9 - 5);
    due("prepaid", house("p59").at(1, 0, 1), 15 + 9 + 9 - 4);
    due("carried", house("c59").at(1, 0, 1), 15 + 4 + 4);
    due("roped", house("r59").at(1, 0, 1), 15 + 9 - 1 + 9 - 5);
    FloorAbove x = house("r00;o00");
    due("roped at -6", x.at(5, 0, 0), 0);
    due("roped at -6 owes", x.at(5, 0, 2), 0);
    due("roped at -7", x.at(6, 0, 0), -1);
    due("left for good", x.at(23, 0, 1), -7);
    due("from the landing is no fall", x.at(6, 0, 3), 0);
    due("ordinary at -1", x.at(0, 1, 0), -1);
    due("nor in month 0", x.at(0, 1, 3), 0);
    x = house("o09");
    x.event(0, 0, 0);
    due("only what is left behind rent counts", x.at(0, 0, 1), 4);
    due("not settled by the bill alone", x.at(0, 0, 0), 2);
    x = house("o00");
    x.event(1, 5, 0);
    due("no gift for who is in the cellar", x.at(5, 0, 1), -1);
  }

  private static void audits() {
    FloorAbove x = house("c00;c20");
    x.event(2, 0, 0);
    due("wants 0", x.at(0, 0, 0), 0);
    due("wants 2", x.at(0, 1, 0), 2);
    due("owes none", x.at(0, 1, 2), 0);
    due("trust again", x.at(1, 1, 0), 3);
  }

  private static void caps() {
    FloorAbove x = house("p99");
    due("left", x.at(23, 0, 1), 60);
    due("floor", x.at(23, 0, 0), 12);
    x = house("o90");
    for (int n = 0; n < 8; n++) x.event(1, 0, 0);
    due("gifts", x.at(0, 0, 1), 27 + 24 - 1);
    x = house("p99");
    x.event(1, 23, 0);
    x.event(0, 23, 0);
    due("60 at most is behind wage and rent", x.at(23, 0, 1), 60);
    due("wage less rent is 3", x.at(2, 0, 1) - x.at(1, 0, 1), 3);
  }

  private static void live() {
    FloorAbove x = house("r00;o01;c90");
    due("landing", x.live(0, 0), 1);
    due("1", x.live(0, 1), 2);
    due("10", x.live(0, 10), 4);
    due("in the cellar", x.live(6, 0), 0);
    due("month", x.live(24, 0), -2);
    due("month", x.live(-1, 0), -2);
    due("floor", x.live(0, 13), -2);
    due("the cellar is no floor", x.live(0, -1), -2);
  }

  private static void lift() {
    FloorAbove x = house("o33;o33;o33");
    due("only the third does not owe", x.lift(0), 1 << 3);
    x.event(2, 0, 0);
    due("nobody owes", x.lift(0), 1 << 3 | 1 << 2);
    x = house("c20;c30;c30");
    x.room(1);
    due("two live where they have paid", x.lift(0), 1 << 3 | 1 << 2);
    x = house("c30;c30;c30;c20");
    due("one who owes is enough", x.lift(0), 0);
    x = house("c20;c30");
    x.room(1);
    due("all owe", x.lift(0), 0);
    x = house("r00");
    due("not at the landing", x.lift(0), 0);
    due("month", x.lift(24), -2);
    due("month", x.lift(-1), -2);
  }

  private static void ends() {
    FloorAbove x = house("o50;c30;c00");
    due("settled", x.ends(0, 0), 8);
    due("not settled", x.ends(1, 0), -1);
    due("fell", x.ends(0, 1), 1);
    due("past", x.ends(0, 2), 0);
    due("highest", x.ends(0, 3), 5);
    x.event(0, 1, 0);
    x.event(0, 1, 0);
    due("fell", x.ends(0, 1), 2);
    due("past the one on 4", x.ends(0, 2), 1);
    x.wipe();
    for (char b : "o50;c00".toCharArray()) x.type(b);
    due("none between", x.ends(0, 2), 0);
    for (int n = 0; n < 3; n++) x.event(1, 1, 1);
    due("who lives between behind the month of the fall", x.ends(0, 2), 1);
    x = house("o01;r00");
    x.event(0, 3, 0);
    due("into the cellar", x.ends(0, 0), 3);
    due("fell", x.ends(0, 1), 1);
    due("past the landing", x.ends(0, 2), 1);
    due("never above the cellar", house("o00").ends(0, 3), -1);
    due("tenant", x.ends(2, 0), LEAST);
    due("tenant", x.ends(-1, 0), LEAST);
    due("what", x.ends(0, 4), LEAST);
    due("what", x.ends(0, -1), LEAST);
  }

  private static void sum() {
    FloorAbove x = house("o50;o50;c30");
    x.room(8);
    due("settled", x.sum(0), 2);
    due("fell", x.sum(1), 2);
    due("past", x.sum(2), 0);
    due("owe", x.sum(3), 8 + 8 + 24);
    x.event(0, 1, 0);
    x.event(0, 1, 0);
    due("past", x.sum(2), 2);
    due("what", x.sum(4), -2);
    due("what", x.sum(-1), -2);
    due("nobody", new FloorAbove().sum(3), 0);
  }

  private static void top() {
    due("of like ones the least", house("c10;c20;c20").top(), 1);
    due("the landing is enough", house("o00;c00;r01").top(), 1);
    due("all in the cellar", house("o00;r00").top(), -1);
    due("none", new FloorAbove().top(), -1);
  }

  private static void heard() {
    due("1 below 2 and 3", house("c10;c20;c20").heard(), 1 << 1);
    due("none", new FloorAbove().heard(), 0);
    due("only the cellar", house("o00").heard(), 0);
    FloorAbove x = house("c00;c50;c90");
    due("between", x.heard(), 1 << 2 | 1 << 3 | 1 << 4 | 1 << 5 | 1 << 7 | 1 << 8 | 1 << 9);
    due("10 and 12 are lived on", house("c90;p99").heard(), 1 << 11 | (1 << 10) - 2);
  }

  private static void earn() {
    FloorAbove x = house("o50;c00");
    due("which", x.earn(0, 0), 1);
    due("settled", x.earn(0, 1), 0);
    due("fell", x.earn(0, 2), 0);
    due("of like ones the least", x.earn(1, 0), 0);
    due("settled", x.earn(1, 1), 1);
    due("fell", x.earn(1, 2), 1);
    due("one's own is as it was", x.tenant(0, 2), 0);
    due("tenant", x.earn(2, 0), -2);
    due("tenant", x.earn(-1, 0), -2);
    due("what", x.earn(0, 3), -2);
    due("what", x.earn(0, -1), -2);
  }

  private static void be() {
    FloorAbove x = house("o50;c00");
    due("which", x.be(0, 0), 1);
    due("settled", x.be(0, 1), 0);
    due("fell", x.be(0, 2), 0);
    due("carried", x.be(1, 0), 1);
    due("settled", x.be(1, 1), 1);
    due("fell", x.be(1, 2), 1);
    due("one's own is as it was", x.tenant(0, 0), 0);
    due("tenant", x.be(2, 0), -2);
    due("tenant", x.be(-1, 0), -2);
    due("what", x.be(0, 3), -2);
    due("what", x.be(0, -1), -2);
  }

  /** The answer is held against each ROOM, set in turn. */
  private static void widen() {
    FloorAbove x = house("o99;o99;p99;p99;c99;c99;r99;r99");
    due("which", x.widen(0), 4);
    int[] settled = new int[9];
    int[] fell = new int[9];
    int best = 1;
    for (int r = 1; r <= 8; r++) {
      x.room(r);
      settled[r] = x.sum(0);
      fell[r] = x.sum(1);
      boolean better = settled[r] < settled[best] || settled[r] == settled[best] && fell[r] < fell[best];
      if (better) best = r;
    }
    due("which", x.widen(0), best);
    due("settled", x.widen(1), settled[best]);
    due("fell", x.widen(2), fell[best]);
    due("room is as it was", x.count(5), 8);
    due("nobody", new FloorAbove().widen(0), 1);
    due("what", x.widen(3), -2);
    due("what", x.widen(-1), -2);
  }

  private static void spare() {
    FloorAbove x = house("o01");
    spares(x, 0, -1, -1);
    x.event(1, 0, 0);
    spares(x, 0, -1, -1);
    x.event(0, 3, 0);
    spares(x, 1, 1, -1);
    x.event(0, 9, 0);
    spares(x, 2, 1, 2);
    x.event(0, 9, 0);
    spares(x, -1, -1, -1);
    x = house("o50");
    x.event(0, 0, 0);
    spares(x, -1, -1, -1);
    x = house("o01");
    x.event(0, 3, 0);
    x.event(0, 9, 0);
    spares(x, 2, 0, 1);
    x.back();
    spares(x, 1, 0, -1);
    due("i", x.spare(2), -2);
    due("i", x.spare(-2), -2);
    due("i", x.spare(LEAST), -2);
  }

  private static void spares(FloorAbove x, int many, int first, int second) {
    due("how many", x.spare(-1), many);
    due("the first", x.spare(0), first);
    due("the second", x.spare(1), second);
  }

  private static void seen() {
    FloorAbove x = new FloorAbove();
    due("month", x.seen(24, 0, 0), -2);
    due("month", x.seen(-1, 0, 0), -2);
    due("tenant", x.seen(0, 8, 0), -2);
    due("tenant", x.seen(0, -1, 0), -2);
    due("floor", x.seen(0, 0, 13), -2);
    due("floor", x.seen(0, 0, -2), -2);
    for (int n = 1; n <= 8; n++) due("more", x.seen(23, 7, n % 2 == 0 ? -1 : 12), n);
    due("full", x.seen(0, 0, 0), -4);
    due("bad is told ahead of full", x.seen(0, 8, 0), -2);
  }

  private static void forget() {
    FloorAbove x = house("c00");
    due("none", x.forget(), 0);
    x.seen(0, 0, 5);
    x.seen(0, 0, 5);
    due("none fits", x.was(0, 1), 0);
    due("two", x.forget(), 2);
    due("count", x.count(7), 0);
    due("all fit", x.was(0, 1), 15);
  }

  private static void never() {
    FloorAbove x = house("o01");
    due("no events", x.never(), 0);
    x.event(0, 3, 0);
    x.event(2, 20, 0);
    due("nothing was seen", x.never(), 3);
    x.seen(5, 0, 1);
    due("the bill never was", x.never(), 1);
    x.forget();
    x.seen(5, 0, -1);
    due("the audit never was", x.never(), 2);
    x.seen(0, 1, -1);
    due("of one that there is not", x.never(), 0);
  }

  private static void was() {
    FloorAbove x = house("o01");
    due("all wages", x.was(0, 0), 1023);
    due("all sorts", x.was(0, 1), 15);
    x.event(0, 3, 0);
    x.seen(3, 0, 1);
    due("wages", x.was(0, 0), 1 << 3);
    due("sorts", x.was(0, 1), 0);
    x.forget();
    x.seen(3, 0, 0);
    due("sorts", x.was(0, 1), 1 << 3);
    x.seen(0, 1, 0);
    due("of one that there is not", x.was(0, 1), 0);
    due("tenant", x.was(1, 0), -2);
    due("tenant", x.was(-1, 0), -2);
    due("what", x.was(0, 2), -2);
    due("what", x.was(0, -1), -2);
  }

  private static void ask() {
    FloorAbove x = house("c00");
    due("pairs are told apart behind 2", x.ask(0), 2);
    x.seen(2, 0, 3);
    due("wages", x.was(0, 0), 1 << 4 | 1 << 5);
    due("never told apart", x.ask(0), 0);
    x.seen(2, 0, 4);
    due("none is left", x.ask(0), 0);
    due("tenant", x.ask(1), -2);
    due("tenant", x.ask(-1), -2);
  }

  private static void chance() {
    FloorAbove x = house("o01;o00");
    fraction(x, 8, 0, 0, 1);
    fraction(x, 8, 1, 1, 1);
    x.event(0, 3, 0);
    fraction(x, 0, 0, 0, 1);
    fraction(x, 16, 0, 1, 1);
    fraction(x, 4, 0, 1, 4);
    fraction(x, 5, 0, 5, 16);
    fraction(x, 5, 1, 1, 1);
    x.event(0, 9, 0);
    fraction(x, 4, 0, 7, 16);
    for (int n = 0; n < 6; n++) x.event(0, 9, 0);
    fraction(x, 1, 0, 1732076671L, 4294967296L);
    due("c", x.chance(17, 0, 0), Long.MIN_VALUE + 2);
    due("c", x.chance(-1, 0, 0), Long.MIN_VALUE + 2);
    due("tenant", x.chance(0, 2, 0), Long.MIN_VALUE + 2);
    due("tenant", x.chance(0, -1, 0), Long.MIN_VALUE + 2);
    due("what", x.chance(0, 0, 2), Long.MIN_VALUE + 2);
    due("what", x.chance(0, 0, -1), Long.MIN_VALUE + 2);
  }

  private static void fraction(FloorAbove x, int c, int tenant, long above, long below) {
    due("above", x.chance(c, tenant, 0), above);
    due("below", x.chance(c, tenant, 1), below);
  }

  /** The first LOTS of SEED 0: 12345 has no upper bits, so the first is an o. */
  private static void houses() {
    FloorAbove x = house("o00;o00");
    due("nobody", x.houses(7, 0, 0), 0);
    due("nobody", x.houses(7, 0, 1), 0);
    for (int seed : new int[] {0, 1, -1, LEAST, MAX, 777}) {
      FloorAbove same = house(drawn(seed, 8));
      due("settled", x.houses(seed, 8, 0), same.sum(0));
      due("fell", x.houses(seed, 8, 1), same.sum(1));
    }
    x.event(0, 3, 0);
    x.room(1);
    FloorAbove same = house(drawn(42, 5));
    same.event(0, 3, 0);
    same.room(1);
    due("with events and room as told", x.houses(42, 5, 0), same.sum(0));
    due("with events and room as told", x.houses(42, 5, 1), same.sum(1));
    due("those told are as they were", x.count(0), 2);
    due("n", x.houses(0, 9, 0), -2);
    due("n", x.houses(0, -1, 0), -2);
    due("what", x.houses(0, 0, 2), -2);
    due("what", x.houses(0, 0, -1), -2);
  }

  private static String drawn(int first, int n) {
    StringBuilder text = new StringBuilder();
    int seed = first;
    for (int i = 0; i < 3 * n; i++) {
      seed = seed * 1103515245 + 12345;
      int lot = (seed >>> 16) % (i % 3 == 0 ? 4 : 10);
      if (i % 3 == 0 && i > 0) text.append(';');
      text.append(i % 3 == 0 ? "opcr".charAt(lot) : (char) ('0' + lot));
    }
    return text.toString();
  }

  private static void sheet() {
    FloorAbove x = new FloorAbove();
    due("sheet", x.sheet(4, 0, 1), -2);
    due("sheet", x.sheet(-1, 0, 1), -2);
    due("form", x.sheet(0, 3, 1), -2);
    due("form", x.sheet(0, -1, 1), -2);
    due("above 60", x.sheet(0, 0, 61), -2);
    due("bad is no finding", x.count(8), 0);
    due("bad is told ahead of size", x.sheet(0, 3, -1), -2);
    due("below 0", x.sheet(0, 0, -1), -15);
    due("finding", x.count(8), 5);
    due("still lost", x.lose(0), -11);
    due("60", x.sheet(0, 0, 60), 60);
    x.lay(0, 0, 5, 9);
    due("below 0", x.sheet(0, 0, LEAST), -15);
    due("as it was", x.get(0, 0, 5), 9);
    due("new", x.sheet(0, 0, 60), 60);
    due("0 at first", x.get(0, 0, 5), 0);
    due("no items", x.sheet(0, 2, 0), 0);
    due("none", x.get(0, 2, 0), LEAST);
    due("index", x.count(8), 2);
  }

  private static void lose() {
    FloorAbove x = new FloorAbove();
    due("sheet", x.lose(4), -2);
    due("sheet", x.lose(-1), -2);
    x.sheet(3, 1, 7);
    due("how many", x.lose(3), 7);
    due("lost", x.lose(3), -11);
    due("finding", x.count(8), 1);
  }

  private static void lay() {
    FloorAbove x = new FloorAbove();
    due("sheet", x.lay(4, 0, 0, 0), -2);
    due("sheet", x.lay(-1, 0, 0, 0), -2);
    due("form", x.lay(0, 3, 0, 0), -2);
    due("form", x.lay(0, -1, 0, 0), -2);
    due("lost", x.lay(0, 0, 0, 0), -11);
    x.sheet(0, 0, 2);
    x.sheet(1, 1, 2);
    x.sheet(2, 2, 2);
    due("cast is told ahead of index", x.lay(0, 1, 9, 0), -13);
    due("index", x.lay(0, 0, 2, 0), -12);
    due("index", x.lay(0, 0, -1, 0), -12);
    for (int form = 0; form < 3; form++) due("lay", x.lay(form, form, 1, 0x12348081), 1);
    due("a byte", x.get(0, 0, 1), (byte) 0x81);
    due("a short", x.get(1, 1, 1), (short) 0x8081);
    due("an int", x.get(2, 2, 1), 0x12348081);
    due("the one beside", x.get(2, 2, 0), 0);
    x.sheet(3, 2, 1);
    due("the last sheet", x.lay(3, 2, 0, MAX), 1);
    due("the last sheet", x.get(3, 2, 0), MAX);
  }

  private static void get() {
    FloorAbove x = new FloorAbove();
    due("sheet", x.get(4, 0, 0), LEAST);
    due("form", x.get(0, 3, 0), LEAST);
    due("bad is no finding", x.count(8), 0);
    due("lost", x.get(0, 0, 0), LEAST);
    due("null", x.count(8), 1);
    x.sheet(0, 0, 3);
    due("form", x.get(0, 1, 3), LEAST);
    due("cast", x.count(8), 3);
    due("index", x.get(0, 0, 3), LEAST);
    due("index", x.count(8), 2);
    due("index", x.get(0, 0, -1), LEAST);
    x.lay(0, 0, 2, -128);
    due("item", x.get(0, 0, 2), -128);
    due("the latest stays", x.count(8), 2);
  }

  private static void copy() {
    FloorAbove x = new FloorAbove();
    due("s", x.copy(4, 0, 0, 0, 0), -2);
    due("t", x.copy(0, 0, -1, 0, 0), -2);
    x.sheet(0, 2, 5);
    due("t is lost", x.copy(0, 0, 1, 0, 0), -11);
    due("s is lost", x.copy(1, 0, 0, 0, 0), -11);
    x.sheet(1, 1, 5);
    due("store is told ahead of index", x.copy(0, -1, 1, 0, 0), -14);
    x.sheet(1, 2, 3);
    for (int i = 0; i < 5; i++) x.lay(0, 2, i, i + 1);
    int[][] off = {{-1, 0, 1}, {0, -1, 1}, {0, 0, -1}, {3, 0, 3}, {0, 1, 3}, {6, 0, 0}, {0, 4, 0},
        {1, 0, MAX}, {MAX, 0, 1}, {MAX, MAX, MAX}, {LEAST, LEAST, LEAST}};
    for (int[] o : off) due("index", x.copy(0, o[0], 1, o[1], o[2]), -12);
    due("none at the end", x.copy(0, 5, 1, 3, 0), 1);
    due("copy", x.copy(0, 2, 1, 0, 3), 1);
    for (int i = 0; i < 3; i++) due("item", x.get(1, 2, i), i + 3);
    due("upon itself", x.copy(0, 0, 0, 1, 4), 1);
    for (int i = 0; i < 5; i++) due("item", x.get(0, 2, i), Math.max(1, i));
    x.sheet(3, 2, 1);
    due("to the last sheet", x.copy(0, 4, 3, 0, 1), 1);
    due("from the last sheet", x.copy(3, 0, 0, 4, 1), 1);
    due("upon itself", x.copy(0, 1, 0, 0, 4), 1);
    for (int i = 0; i < 5; i++) due("item", x.get(0, 2, i), Math.min(4, i + 1));
  }

  private static void write() {
    FloorAbove x = house("o50");
    due("tenant", x.write(1, 0), -2);
    due("tenant", x.write(-1, 0), -2);
    due("sheet", x.write(0, 4), -2);
    due("lost", x.write(0, 0), -11);
    x.sheet(0, 0, 60);
    due("24 at most", x.write(0, 0), 24);
    due("0", x.get(0, 0, 0), 5);
    due("3", x.get(0, 0, 3), 3);
    due("the cellar", x.get(0, 0, 23), -1);
    due("behind them", x.get(0, 0, 24), 0);
    x.sheet(1, 1, 2);
    due("as many as there are", x.write(0, 1), 2);
    due("1", x.get(1, 1, 1), 4);
    x.sheet(2, 2, 0);
    due("none", x.write(0, 2), 0);
    x.sheet(3, 2, 1);
    due("the last sheet", x.write(0, 3), 1);
  }

  private static void count() {
    FloorAbove x = house("o50;c30;c00");
    x.event(0, 1, 0);
    x.event(0, 1, 0);
    x.seen(0, 0, 0);
    x.room(3);
    x.get(0, 0, 0);
    int[] want = {3, 11, 2, 1, 2, 3, 2, 1, 1};
    for (int what = 0; what < 9; what++) due("count " + what, x.count(what), want[what]);
    due("what", x.count(9), -2);
    due("what", x.count(-1), -2);
    x = house("r03;c00;c00;c00");
    due("the landing is no floor", x.count(6), 3);
  }

  private static void digest() {
    FloorAbove x = house("o50;c30;r12;p07");
    x.event(0, 1, 0);
    x.event(1, 6, 2);
    x.event(2, 9, 2);
    x.seen(0, 0, x.at(0, 0, 0));
    due("as told", x.digest(), expected(x));
    due("it changes nothing", x.digest(), expected(x));
    x.type(59);
    due("with a fault", x.digest(), expected(x));
    due("empty", new FloorAbove().digest(), expected(new FloorAbove()));
    x.get(0, 0, 0);
    due("without the finding", x.digest(), expected(x));
  }

  private static long expected(FloorAbove x) {
    long h = 17;
    for (int i = 0; i <= 7; i++) h = 31 * h + x.count(i);
    h = 31 * h + x.fault();
    for (int m = 0; m < 24; m++) h = 31 * h + x.lift(m);
    for (int f = 0; f <= 12; f++) for (int m : new int[] {3, 9, 23}) h = 31 * h + x.live(m, f);
    for (int t = 0; t < x.count(0); t++) {
      for (int i = 0; i < 3; i++) h = 31 * h + x.tenant(t, i);
      for (int m : new int[] {0, 6, 13, 23}) for (int i = 0; i < 4; i++) h = 31 * h + x.at(m, t, i);
      for (int i = 0; i < 4; i++) h = 31 * h + x.ends(t, i);
      for (int i = 0; i < 3; i++) h = 31 * h + x.earn(t, i);
      for (int i = 0; i < 3; i++) h = 31 * h + x.be(t, i);
      for (int i = 0; i < 2; i++) h = 31 * h + x.was(t, i);
      h = 31 * h + x.ask(t);
      for (int i = 0; i < 2; i++) h = 31 * h + x.chance(5, t, i);
    }
    for (int i = 0; i < 4; i++) h = 31 * h + x.sum(i);
    h = 31 * (31 * h + x.top()) + x.heard();
    for (int i = 0; i < 3; i++) h = 31 * h + x.widen(i);
    h = 31 * (31 * (31 * h + x.spare(-1)) + x.spare(0)) + x.never();
    return 31 * (31 * h + x.houses(7, 6, 0)) + x.houses(7, 6, 1);
  }
}
