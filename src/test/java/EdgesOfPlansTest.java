import java.math.BigInteger;
import java.util.HashMap;
import java.util.Map;

/** The edges of plans, of what was SEEN, of chances and houses (promises 18 to 28). */
public final class EdgesOfPlansTest extends Edges {
  private static final long BAD_LONG = Long.MIN_VALUE + 2;

  public static void main(String[] args) throws Exception {
    begin(args);
    plans();
    spares();
    seeing();
    chances();
    houses();
    end();
  }

  private static void plans() {
    says("EARN of one: the WAGE (0 to 9), in place of one's own", EdgesOfPlansTest::earnLeastAndMost);
    says("by which fewest are SETTLED, of these all FELL least often", EdgesOfPlansTest::earnSettledAhead);
    says("of like ones the least: which; how many are SETTLED; how often they FELL",
        EdgesOfPlansTest::earnOfLikeOnes);
    says("EARN: which (what = 0), how many are SETTLED (1), how often they FELL (2). BAD.",
        EdgesOfPlansTest::earnBad);
    says("BE of one: the sort (0 o, 1 p, 2 c, 3 r), in place of one's own, likewise.", EdgesOfPlansTest::beEach);
    says("in place of one's own, likewise", EdgesOfPlansTest::beLikewise);
    says("BE: which (what = 0), how many (1), how often (2). BAD.", EdgesOfPlansTest::beBad);
    says("WIDEN: the ROOM (1 to 8), in place of what it is, likewise.", EdgesOfPlansTest::widenLeastAndMost);
    says("in place of what it is, likewise", EdgesOfPlansTest::widenLikewise);
    says("WIDEN: which (what = 0), how many (1), how often (2). BAD.", EdgesOfPlansTest::widenBad);
  }

  private static void spares() {
    says("SPARE: the fewest EVENTS (0 to 2) that had better not be, so that none is SETTLED",
        EdgesOfPlansTest::spareFewest);
    says("of like ones the least row (each more than the one ahead)", EdgesOfPlansTest::spareLeastRow);
    says("how many; the i-th; NONE.", EdgesOfPlansTest::spareNone);
    says("how many (i = NONE), the i-th (0, 1; NONE); NONE. BAD.", EdgesOfPlansTest::spareBad);
    says("what was told undone", EdgesOfPlansTest::spareUndone);
  }

  private static void seeing() {
    says("SEEN more: how many. BAD; FULL.", EdgesOfPlansTest::seenNumbers);
    says("SEEN, 8 at most", EdgesOfPlansTest::seenFull);
    says("of one that there is not nothing ever comes out so", EdgesOfPlansTest::seenOfNobody);
    says("lived on a FLOOR (-1 to 12)", EdgesOfPlansTest::seenFloors);
    says("All SEEN are forgotten: how many.", EdgesOfPlansTest::forgets);
    says("NEVER: EVENTS each of which, had it alone not been, makes all that was SEEN come out so, as bits.",
        EdgesOfPlansTest::neverAlone);
    says("NEVER, as bits.", EdgesOfPlansTest::neverBits);
    says("WAGES of one: 0 to 9, in place of one's own, likewise, as bits.", EdgesOfPlansTest::wasWages);
    says("SORT of one: 0 o, 1 p, 2 c, 3 r, in place of one's own, likewise, as bits.", EdgesOfPlansTest::wasSorts);
    says("WAGES (what = 0), SORT (1), as bits. BAD.", EdgesOfPlansTest::wasBad);
    says("the MONTH behind which the greatest number of those of WAGES", EdgesOfPlansTest::askFirstAndLast);
    says("by which all live on the like FLOORS is least", EdgesOfPlansTest::askOfAll);
    says("is least, of like ones the least", EdgesOfPlansTest::askOfLikeOnes);
    says("ASK. BAD.", EdgesOfPlansTest::askBad);
  }

  private static void chances() {
    says("each of EVENTS is by c sixteenths (0 to 16)", EdgesOfPlansTest::chanceLeastAndMost);
    says("by itself", EdgesOfPlansTest::chanceByItself);
    says("the chance that one is SETTLED by MONTH 23: a FRACTION", EdgesOfPlansTest::chanceByTheEnd);
    says("FRACTIONS are told in lowest terms, above and below", EdgesOfPlansTest::chanceLowest);
    says("(0 by 1)", EdgesOfPlansTest::chanceOfNothing);
    says("what was told undone", EdgesOfPlansTest::chanceUndone);
    says("CHANCE: above, below. BAD. (As the least long.)", EdgesOfPlansTest::chanceBad);
    says("Where the answer is a long, a refusal -x is the least long and x more.", EdgesOfPlansTest::chanceBad);
  }

  private static void houses() {
    says("n TENANTS (0 to 8), in place of those told", EdgesOfPlansTest::housesOfEachSize);
    says("SEED becomes 1103515245 SEED and 12345, as ints that wrap", EdgesOfPlansTest::housesWrap);
    says("its upper 16 bits as a number from 0 on, modulo m", EdgesOfPlansTest::housesUpperBits);
    says("HOUSES: SETTLED (what = 0), FELL (1). BAD.", EdgesOfPlansTest::housesBad);
  }

  // ---- plans

  private static void plan(String call, int[] got, int which, int settled, int fell) {
    due(call + ": which", got[0], which);
    due(call + ": settled", got[1], settled);
    due(call + ": fell", got[2], fell);
  }

  private static int[] earn(FloorAbove x, int t) {
    return new int[] {x.earn(t, 0), x.earn(t, 1), x.earn(t, 2)};
  }

  private static int[] be(FloorAbove x, int t) {
    return new int[] {x.be(t, 0), x.be(t, 1), x.be(t, 2)};
  }

  private static int[] widen(FloorAbove x) {
    return new int[] {x.widen(0), x.widen(1), x.widen(2)};
  }

  private static void earnLeastAndMost() {
    FloorAbove x = with(house("o00"), BILL, 0, 0, BILL, 0, 0);
    plan("9 alone will do", earn(x, 0), 9, 0, 0);
    due("one's own is as it was", x.tenant(0, 2), 0);
    due("and what comes of it", x.sum(0), 1);
    plan("0 will do", earn(house("c09"), 0), 0, 0, 0);
    x = with(house(times(7, "c00") + ";o00"), BILL, 0, 7, BILL, 0, 7);
    plan("of the last", earn(x, 7), 9, 0, 0);
    plan("no one else can help", earn(x, 0), 0, 1, 0);
    x = with(house("o10"), BILL, 0, 0, BILL, 0, 0, BILL, 0, 0);
    plan("10 were needed", earn(x, 0), 0, 1, 0);
  }

  private static void earnSettledAhead() {
    FloorAbove x = roomFor(1, house("r36;o20"));
    int[] settled = new int[10];
    int[] fell = new int[10];
    int best = 0;
    boolean fewerFalls = false;
    for (int w = 0; w < 10; w++) {
      FloorAbove y = roomFor(1, house("r3" + w + ";o20"));
      settled[w] = y.sum(0);
      fell[w] = y.sum(1);
      if (settled[w] < settled[best] || settled[w] == settled[best] && fell[w] < fell[best]) best = w;
    }
    for (int w = 0; w < 10; w++) fewerFalls |= fell[w] < fell[best];
    plan("r36;o20", earn(x, 0), best, settled[best], fell[best]);
    plan("r36;o20", earn(x, 0), 1, 1, 1);
    due("others fell less often, but more are settled", fewerFalls ? 1 : 0, 1);
  }

  private static void earnOfLikeOnes() {
    plan("all are like", earn(house("o00;c50"), 1), 0, 1, 0);
    plan("1 to 9 are like", earn(house("o05"), 0), 1, 0, 0);
    FloorAbove x = with(house("c50;c05"), BILL, 3, 0);
    plan("somebody falls by all of them", earn(x, 1), 0, 0, 1);
  }

  private static void earnBad() {
    FloorAbove x = house("o50;c30");
    for (int what = 0; what < 3; what++) {
      int w = what;
      outside("tenant", 0, 1, BAD, t -> x.earn(t, w));
      due("nobody", new FloorAbove().earn(0, w), BAD);
    }
    outside("what", 0, 2, BAD, what -> x.earn(0, what));
  }

  private static void beEach() {
    plan("o will do", be(house("r09"), 0), 0, 0, 0);
    plan("p alone", be(house("o50"), 0), 1, 0, 0);
    plan("c alone", be(with(house("o80"), BILL, 20, 0, BILL, 20, 0), 0), 2, 0, 1);
    plan("r alone", be(with(house("o01"), BILL, 0, 0), 0), 3, 0, 0);
    FloorAbove x = with(house(times(7, "c00") + ";o01"), BILL, 0, 7);
    plan("of the last", be(x, 7), 3, 0, 0);
    due("one's own is as it was", x.tenant(7, 0), 0);
  }

  private static void beLikewise() {
    FloorAbove x = with(house("o30"), BILL, 18, 0);
    int[] settled = new int[4];
    int[] fell = new int[4];
    for (int sort = 0; sort < 4; sort++) {
      FloorAbove y = with(house("opcr".charAt(sort) + "30"), BILL, 18, 0);
      settled[sort] = y.sum(0);
      fell[sort] = y.sum(1);
    }
    plan("fewest are settled", be(x, 0), 2, 0, 1);
    due("c", settled[2], 0);
    due("c", fell[2], 1);
    due("r fell less often", fell[3], 0);
    due("but is settled", settled[3], 1);
    plan("of like ones the least", be(house("r00;c50"), 1), 1, 1, 0);
  }

  private static void beBad() {
    FloorAbove x = house("o50;c30");
    for (int what = 0; what < 3; what++) {
      int w = what;
      outside("tenant", 0, 1, BAD, t -> x.be(t, w));
      due("nobody", new FloorAbove().be(0, w), BAD);
    }
    outside("what", 0, 2, BAD, what -> x.be(0, what));
  }

  /** The last one comes down by one FLOOR, unless the seven others have filled it. */
  private static void widenLeastAndMost() {
    FloorAbove x = with(house(times(7, "c22") + ";c32"), BILL, 1, 7);
    for (int room = 1; room <= 8; room++) {
      x.room(room);
      plan("8 alone", widen(x), 8, 0, 0);
      due("room is as it was", x.count(5), room);
      due("it falls in less", x.sum(1) > 0 ? 1 : 0, room < 8 ? 1 : 0);
    }
    plan("1 will do", widen(house("c90")), 1, 0, 0);
    plan("nobody", widen(new FloorAbove()), 1, 0, 0);
  }

  private static void widenLikewise() {
    FloorAbove x = with(house("r72;p80"), BILL, 11, 1, BILL, 14, 0);
    int least = MAX;
    for (int room = 8; room >= 1; room--) {
      x.room(room);
      least = Math.min(least, x.sum(1));
    }
    due("in 1 none is settled", x.sum(0), 0);
    plan("fewest are settled", widen(x), 1, 0, 3);
    due("others fell less often", least, 2);
    plan("of like ones the least", widen(house("o00;o00")), 1, 2, 0);
  }

  private static void widenBad() {
    outside("what", 0, 2, BAD, house("o50;c30")::widen);
    outside("what of nobody", 0, 2, BAD, new FloorAbove()::widen);
  }

  // ---- SPARE

  private static void spare(String call, FloorAbove x, int many, int first, int second) {
    due(call + ": how many", x.spare(NONE), many);
    due(call + ": the first", x.spare(0), first);
    due(call + ": the second", x.spare(1), second);
  }

  /** AUDITS with BILLS among them; one of "o01" is SETTLED by each BILL. */
  private static FloorAbove billsAt(String text, int... places) {
    FloorAbove x = house(text);
    for (int e = 0; e < 8; e++) {
      boolean bill = false;
      for (int place : places) bill |= place == e;
      x.event(bill ? BILL : AUDIT, 2 * e, 0);
    }
    return x;
  }

  private static void spareFewest() {
    spare("no events, none settled", house("c00"), 0, NONE, NONE);
    spare("nobody", with(new FloorAbove(), BILL, 0, 0), 0, NONE, NONE);
    spare("none is settled", billsAt("o01"), 0, NONE, NONE);
    for (int a = 0; a < 8; a++) {
      spare("one", billsAt("o01", a), 1, a, NONE);
      for (int b = a + 1; b < 8; b++) spare("two", billsAt("o01", a, b), 2, a, b);
    }
    spare("three are too many", billsAt("o01", 0, 3, 7), NONE, NONE, NONE);
    spare("eight are too many", billsAt("o01", 0, 1, 2, 3, 4, 5, 6, 7), NONE, NONE, NONE);
    FloorAbove x = billsAt("o01", 0, 1);
    x.spare(0);
    due("they are as they were", x.count(2), 8);
    due("and what comes of them", x.sum(0), 1);
  }

  private static void spareLeastRow() {
    spare("either of two", billsAt("c20", 3, 5), 1, 3, NONE);
    spare("any two of three", billsAt("c20", 3, 5, 6), 2, 3, 5);
    spare("one is fewer than two", billsAt("c20", 6, 7), 1, 6, NONE);
    spare("the last will do", with(house("c20;o01"), BILL, 1, 0, AUDIT, 1, 0, BILL, 1, 1), 1, 2, NONE);
    spare("the first and the last", with(house("o01;o01"), BILL, 1, 0, AUDIT, 1, 0, BILL, 1, 1), 2, 0, 2);
  }

  private static void spareNone() {
    spare("settled without any", house("o00"), NONE, NONE, NONE);
    spare("settled without any", with(house("o00"), BILL, 9, 0), NONE, NONE, NONE);
    spare("one of two cannot be helped", with(house("o00;o01"), BILL, 9, 1), NONE, NONE, NONE);
  }

  private static void spareBad() {
    FloorAbove[] each = {new FloorAbove(), house("o00"), billsAt("o01", 1), billsAt("o01", 1, 2)};
    for (FloorAbove x : each) outside("i", NONE, 1, BAD, x::spare);
  }

  private static void spareUndone() {
    FloorAbove x = with(house("o01"), BILL, 3, 0);
    spare("a bill", x, 1, 0, NONE);
    x.event(BILL, 4, 0);
    spare("two", x, 2, 0, 1);
    x.event(BILL, 5, 0);
    spare("three", x, NONE, NONE, NONE);
    x.back();
    spare("two again", x, 2, 0, 1);
    x.back();
    spare("a bill again", x, 1, 0, NONE);
    x.undo();
    x.type('9');
    spare("a better wage", x, 0, NONE, NONE);
    x.undo();
    x.type('1');
    spare("the wage as it was", x, 1, 0, NONE);
    x.wipe();
    spare("nobody", x, 0, NONE, NONE);
    x = with(house("c10;o02"), BILL, 20, 1);
    spare("room for two, on a dear floor", x, 1, 0, NONE);
    x.room(1);
    spare("room for one", x, 0, NONE, NONE);
    x.room(2);
    spare("room for two again", x, 1, 0, NONE);
  }

  // ---- SEEN

  private static void seenNumbers() {
    FloorAbove x = new FloorAbove();
    outside("month", 0, 23, BAD, m -> x.seen(m, 0, 0));
    outside("tenant", 0, 7, BAD, t -> x.seen(0, t, 0));
    outside("floor", -1, 12, BAD, f -> x.seen(0, 0, f));
    due("seen", x.count(7), 0);
    due("all least", x.seen(0, 0, -1), 1);
    due("all greatest", x.seen(23, 7, 12), 2);
  }

  private static void seenFull() {
    FloorAbove x = house("c00");
    for (int n = 1; n <= 8; n++) due("the like again", x.seen(0, 0, 1), n);
    due("full", x.seen(0, 0, 5), FULL);
    due("bad ahead of full", x.seen(24, 0, 0), BAD);
    due("bad ahead of full", x.seen(0, 8, 0), BAD);
    due("bad ahead of full", x.seen(0, 0, 13), BAD);
    due("seen", x.count(7), 8);
    due("the ninth is not looked at", x.was(0, 0), 63);
  }

  private static void seenOfNobody() {
    for (int t = 1; t < 8; t++) {
      for (int floor = -1; floor <= 12; floor++) {
        FloorAbove x = with(house("c00"), AUDIT, 5, 0);
        x.seen(23, t, floor);
        due("never", x.never(), 0);
        due("wages", x.was(0, 0), 0);
        due("sorts", x.was(0, 1), 0);
        due("ask", x.ask(0), 0);
      }
    }
    FloorAbove x = with(house("c00"), AUDIT, 5, 0);
    x.seen(23, 1, 1);
    typed(x, ";c00");
    due("but who comes later", x.never(), 1);
    due("but who comes later", x.was(0, 1), 15);
  }

  private static void seenFloors() {
    FloorAbove x = house("o00;r00;c90;p99");
    int[] floors = {-1, 0, 10, 12};
    for (int t = 0; t < 4; t++) {
      for (int floor = -1; floor <= 12; floor++) {
        x.forget();
        x.seen(0, t, floor);
        int other = t == 0 ? 1 : 0;
        due("sorts of another", x.was(other, 1) > 0 ? 1 : 0, floor == floors[t] ? 1 : 0);
      }
    }
  }

  private static void forgets() {
    FloorAbove x = house("c00");
    due("none", x.forget(), 0);
    for (int n = 1; n <= 8; n++) x.seen(0, 0, 5);
    due("no wage", x.was(0, 0), 0);
    due("eight", x.forget(), 8);
    due("none", x.forget(), 0);
    due("seen", x.count(7), 0);
    due("each wage", x.was(0, 0), 1023);
    due("the next is the first", x.seen(0, 0, 1), 1);
  }

  private static void neverAlone() {
    FloorAbove x = with(house("c90"), BILL, 3, 0, BILL, 3, 0, AUDIT, 9, 0);
    x.seen(3, 0, 10);
    due("two would have to go", x.never(), 0);
    x.forget();
    x.seen(3, 0, 8);
    due("either bill", x.never(), 3);
    x.seen(9, 0, 8);
    due("with the audit gone one bill is there", x.never(), 0);
    x.forget();
    x.seen(9, 0, 7);
    due("any of the three", x.never(), 7);
    x.seen(3, 0, 7);
    due("all that was seen", x.never(), 4);
    x.seen(3, 0, 6);
    due("not both", x.never(), 0);
    due("they are as they were", x.at(3, 0, 0), 7);
  }

  private static void neverBits() {
    FloorAbove x = house("c00");
    due("no events", x.never(), 0);
    for (int n = 1; n <= 8; n++) {
      x.event(AUDIT, n, 0);
      due("nothing was seen", x.never(), (1 << n) - 1);
    }
    for (int n = 0; n < 8; n++) {
      x.forget();
      x.seen(n + 1, 0, 1);
      due("the audit of " + n, x.never(), 1 << n);
    }
    FloorAbove y = house("c00");
    y.seen(0, 0, 1);
    due("no events, and it comes out so", y.never(), 0);
  }

  private static void wasWages() {
    FloorAbove x = house("r05");
    due("nothing was seen", x.was(0, 0), 1023);
    x.seen(0, 0, 0);
    due("0 alone", x.was(0, 0), 1);
    x = with(house("o00"), BILL, 0, 0, BILL, 0, 0);
    x.seen(0, 0, 1);
    due("9 alone", x.was(0, 0), 1 << 9);
    x.forget();
    x.seen(0, 0, -1);
    due("all but 9", x.was(0, 0), 511);
    x.seen(0, 0, 0);
    due("none", x.was(0, 0), 0);
    due("one's own is as it was", x.tenant(0, 2), 0);
    x = house("c00;c00");
    x.seen(0, 1, 2);
    due("of another: none helps", x.was(0, 0), 0);
    due("of this one", x.was(1, 0), 1 << 6 | 1 << 7 | 1 << 8 | 1 << 9);
  }

  private static void wasSorts() {
    FloorAbove x = house("p00");
    due("nothing was seen", x.was(0, 1), 15);
    x.seen(0, 0, -1);
    due("o alone", x.was(0, 1), 1);
    x.forget();
    x.seen(0, 0, 0);
    due("r alone", x.was(0, 1), 8);
    x.forget();
    x.seen(0, 0, 1);
    due("p and c", x.was(0, 1), 6);
    x.seen(1, 0, 0);
    due("none", x.was(0, 1), 0);
    due("one's own is as it was", x.tenant(0, 0), 1);
  }

  private static void wasBad() {
    FloorAbove x = house("o50;c30");
    for (int what = 0; what < 2; what++) {
      int w = what;
      outside("tenant", 0, 1, BAD, t -> x.was(t, w));
      due("nobody", new FloorAbove().was(0, w), BAD);
    }
    outside("what", 0, 1, BAD, what -> x.was(0, what));
  }

  /** ASK over all WAGES of the first, worked out from ten houses of their own. */
  private static int asked(String text, int room, int... events) {
    int least = MAX;
    int month = NONE;
    for (int m = 0; m < 24; m++) {
      Map<String, Integer> alike = new HashMap<>();
      int greatest = 0;
      for (int w = 0; w < 10; w++) {
        FloorAbove y = roomFor(room, with(house(text.substring(0, 2) + w + text.substring(3)), events));
        StringBuilder view = new StringBuilder();
        for (int t = 0; t < y.count(0); t++) view.append(y.at(m, t, 0)).append(' ');
        greatest = Math.max(greatest, alike.merge(view.toString(), 1, Integer::sum));
      }
      if (greatest < least) {
        least = greatest;
        month = m;
      }
    }
    return month;
  }

  private static void askFirstAndLast() {
    int[] last = {BILL, 23, 0};
    due("worked out", asked("o94", 2, last), 23);
    due("the last month", with(house("o94"), last).ask(0), 23);
    due("worked out", asked("c00", 2), 2);
    due("pairs are apart", house("c00").ask(0), 2);
    due("of the last", house(times(7, "o00") + ";c00").ask(7), 2);
    due("of the first of eight", house("c00;" + times(7, "o00")).ask(0), 2);
    due("worked out", asked("c00;p99", 2), 2);
    due("below the roof", house("c00;p99").ask(0), 2);
    FloorAbove x = with(house("p00"), BILL, 1, 0, BILL, 1, 0, BILL, 1, 0, BILL, 1, 0);
    due("by 0 to 8 one is settled behind 1", x.ask(0), 0);
    x = with(house("c30;c30;c30;c30;p00"), BILL, 1, 4, BILL, 1, 4, BILL, 1, 4, BILL, 1, 4, BILL, 1, 4, GIFT, 1, 4);
    x.room(1);
    due("all on the landing behind 0, 9 alone not settled behind 1", x.ask(4), 1);
    x = house("p00");
    x.seen(0, 0, 1);
    due("0, 1 and 2", x.was(0, 0), 7);
    due("all three are apart", x.ask(0), 3);
  }

  private static void askOfAll() {
    due("worked out", asked("o11;p80", 1), 3);
    due("by one's own floor it were 4", roomFor(1, house("o11;p80")).ask(0), 3);
  }

  private static void askOfLikeOnes() {
    FloorAbove x = house("c00");
    x.seen(2, 0, 3);
    due("4 and 5 are never apart", x.was(0, 0), 1 << 4 | 1 << 5);
    due("all months are like", x.ask(0), 0);
    x = house("r05");
    x.seen(0, 0, 0);
    due("one is left", x.ask(0), 0);
    x.seen(0, 0, 1);
    due("none is left", x.ask(0), 0);
    x = with(house("o00"), BILL, 0, 0, BILL, 0, 0);
    x.seen(0, 0, -1);
    due("nine in the cellar from the first", x.ask(0), 0);
  }

  private static void askBad() {
    FloorAbove x = house("o50;c30");
    outside("tenant", 0, 1, BAD, x::ask);
    due("nobody", new FloorAbove().ask(0), BAD);
  }

  // ---- CHANCE

  private static void fraction(FloorAbove x, int c, long above, long below) {
    due(c + " sixteenths, above", x.chance(c, 0, 0), above);
    due(c + " sixteenths, below", x.chance(c, 0, 1), below);
  }

  private static void chanceLeastAndMost() {
    FloorAbove x = with(house("o01"), BILL, 3, 0);
    fraction(x, 0, 0, 1);
    fraction(x, 1, 1, 16);
    fraction(x, 15, 15, 16);
    fraction(x, 16, 1, 1);
    x = with(house("c50"), BILL, 0, 0, BILL, 0, 0, BILL, 0, 0, BILL, 0, 0, GIFT, 0, 0);
    fraction(x, 0, 0, 1);
    fraction(x, 8, 1, 32);
    fraction(x, 16, 0, 1);
  }

  private static void chanceByItself() {
    FloorAbove x = with(house("c20"), BILL, 3, 0, BILL, 9, 0);
    fraction(x, 5, 25, 256);
    fraction(x, 4, 1, 16);
    with(x, AUDIT, 12, 0);
    fraction(x, 5, 25, 256);
    x = with(house("o01"), BILL, 3, 0, BILL, 9, 0);
    fraction(x, 5, 256 - 121, 256);
    x = with(house("c10"), BILL, 3, 0, GIFT, 2, 0);
    fraction(x, 5, 55, 256);
    due("they are as they were", x.count(2), 2);
  }

  private static void chanceByTheEnd() {
    fraction(with(house("o01"), BILL, 23, 0), 3, 3, 16);
    fraction(with(house("o01"), BILL, 0, 0), 3, 3, 16);
    fraction(with(house("o00"), GIFT, 0, 0), 3, 1, 1);
    FloorAbove x = with(house("c00;o01"), BILL, 4, 1);
    due("of another", x.chance(4, 0, 0), 0);
    due("of this one", x.chance(4, 1, 0), 1);
    due("of this one", x.chance(4, 1, 1), 4);
  }

  /** One of "o01" is not SETTLED only if none of the eight BILLS is. */
  private static void chanceLowest() {
    FloorAbove x = house("o01");
    for (int n = 0; n < 8; n++) x.event(BILL, n, 0);
    for (int c = 0; c <= 16; c++) {
      BigInteger below = BigInteger.valueOf(16).pow(8);
      BigInteger above = below.subtract(BigInteger.valueOf(16 - c).pow(8));
      BigInteger common = above.gcd(below);
      fraction(x, c, above.divide(common).longValueExact(), below.divide(common).longValueExact());
    }
    fraction(x, 1, 1732076671L, 4294967296L);
    fraction(x, 15, 4294967295L, 4294967296L);
    fraction(x, 8, 255, 256);
  }

  private static void chanceOfNothing() {
    fraction(house("c00"), 7, 0, 1);
    FloorAbove x = house("c90");
    for (int n = 0; n < 8; n++) x.event(AUDIT, n, 0);
    fraction(x, 7, 0, 1);
    fraction(house("o00"), 7, 1, 1);
  }

  private static void chanceUndone() {
    FloorAbove x = with(house("o01"), BILL, 3, 0);
    fraction(x, 4, 1, 4);
    x.event(BILL, 4, 0);
    fraction(x, 4, 7, 16);
    x.back();
    fraction(x, 4, 1, 4);
    x.sheet(0, 0, 3);
    x.read(0);
    fraction(x, 4, 7, 16);
    x.undo();
    x.type('9');
    fraction(x, 4, 0, 1);
    x.wipe();
    typed(x, "o00");
    fraction(x, 4, 1, 1);
    x = with(house("o02;c10"), BILL, 20, 0);
    fraction(x, 4, 1, 4);
    x = with(house("o02;c10"), GIFT, 20, 1);
    fraction(x, 4, 0, 1);
    x.back();
    x.event(BILL, 20, 0);
    fraction(x, 4, 1, 4);
    x = with(house("c10;o02"), BILL, 20, 1);
    due("room for two", x.chance(4, 1, 1), 4);
    x.room(1);
    due("room for one", x.chance(4, 1, 1), 1);
    x.room(2);
    due("room for two again", x.chance(4, 1, 1), 4);
  }

  private static void chanceBad() {
    FloorAbove x = with(house("o50;c30"), BILL, 3, 0);
    for (int what = 0; what < 2; what++) {
      int w = what;
      outside("c", 0, 16, BAD_LONG, c -> x.chance(c, 0, w));
      outside("tenant", 0, 1, BAD_LONG, t -> x.chance(8, t, w));
      due("nobody", new FloorAbove().chance(8, 0, w), BAD_LONG);
    }
    outside("what", 0, 1, BAD_LONG, what -> x.chance(8, 0, what));
  }

  // ---- HOUSES

  /** The house of a SEED as a text, by numbers that do not wrap of themselves. */
  private static String drawn(int seed, int n) {
    BigInteger all = BigInteger.ONE.shiftLeft(32);
    BigInteger s = BigInteger.valueOf(seed).mod(all);
    StringBuilder text = new StringBuilder();
    for (int i = 0; i < 3 * n; i++) {
      s = s.multiply(BigInteger.valueOf(1103515245)).add(BigInteger.valueOf(12345)).mod(all);
      int upper = s.shiftRight(16).intValueExact();
      if (i % 3 == 0 && i > 0) text.append(';');
      text.append(i % 3 == 0 ? "opcr".charAt(upper % 4) : (char) ('0' + upper % 10));
    }
    return text.toString();
  }

  private static void alike(String call, FloorAbove x, FloorAbove same, int seed, int n) {
    due(call + ": settled", x.houses(seed, n, 0), same.sum(0));
    due(call + ": fell", x.houses(seed, n, 1), same.sum(1));
  }

  private static void housesOfEachSize() {
    FloorAbove x = with(house("o00;o00;o00"), BILL, 3, 0, BILL, 4, 1, BILL, 6, 7);
    for (int n = 0; n <= 8; n++) {
      for (int room = 1; room <= 8; room += 7) {
        for (int seed = 1; seed < 9; seed++) {
          FloorAbove same = with(house(drawn(seed, n)), BILL, 3, 0, BILL, 4, 1, BILL, 6, 7);
          same.room(room);
          x.room(room);
          alike("n " + n, x, same, seed, n);
        }
      }
    }
    due("those told are as they were", x.count(0), 3);
    due("and what comes of them", x.sum(0), 3);
    alike("none are told", new FloorAbove(), house(drawn(5, 8)), 5, 8);
    alike("with a fault", house("o00;x"), house(drawn(5, 8)), 5, 8);
  }

  private static void housesWrap() {
    for (int seed : new int[] {0, 1, -1, LEAST, LEAST + 1, MAX, MAX - 1, 65535, 65536, -65536}) {
      alike("seed " + seed, new FloorAbove(), house(drawn(seed, 8)), seed, 8);
    }
  }

  private static void housesUpperBits() {
    for (int seed = -200; seed < 200; seed++) {
      alike("seed " + seed, new FloorAbove(), house(drawn(seed, 3)), seed, 3);
    }
  }

  private static void housesBad() {
    FloorAbove x = house("o50;c30");
    for (int what = 0; what < 2; what++) {
      int w = what;
      outside("n", 0, 8, BAD, n -> x.houses(7, n, w));
    }
    outside("what", 0, 1, BAD, what -> x.houses(7, 3, what));
    outside("what of none", 0, 1, BAD, what -> x.houses(7, 0, what));
  }
}
