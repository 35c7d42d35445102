/** The edges of what is told: the text, ROOM, EVENTS (promises 1 to 10). */
public final class EdgesOfTellingTest extends Edges {
  public static void main(String[] args) throws Exception {
    begin(args);
    says("No TENANTS, ROOM 2, no EVENTS; all SHEETS are LOST.", EdgesOfTellingTest::newIsEmpty);
    says("all SHEETS are LOST", EdgesOfTellingTest::newSheetsAreLost);
    text();
    typing();
    room();
    events();
    reading();
    end();
  }

  private static void text() {
    says("TENANTS are a text of up to 31 bytes (text 0)", EdgesOfTellingTest::thirtyOneBytes);
    says("8 at most (0 on)", EdgesOfTellingTest::eightTenants);
    says("with ; between them", EdgesOfTellingTest::semicolons);
    says("o (ordinary), p (prepaid), c (carried) or r (roped)", EdgesOfTellingTest::sorts);
    says("a figure 0 to 9, how many FLOORS are paid for at first", EdgesOfTellingTest::paidFigures);
    says("a figure 0 to 9, the WAGE", EdgesOfTellingTest::wageFigures);
    says("The FAULT of a text is the place of the first byte with which it cannot go on",
        EdgesOfTellingTest::firstFault);
    says("an empty one is well", EdgesOfTellingTest::emptyIsWell);
    says("of one that is not ended, its end", EdgesOfTellingTest::notEnded);
    says("here also of the first byte of a ninth of TENANTS", EdgesOfTellingTest::noNinth);
    says("With a FAULT it is as if it was empty.", EdgesOfTellingTest::faultIsEmpty);
    says("With a FAULT it is as if it was empty.", EdgesOfTellingTest::faultIsMended);
  }

  private static void typing() {
    says("A byte (0 to 255) comes behind the text: how many. BAD; FULL.", EdgesOfTellingTest::typeIsByte);
    says("A byte (0 to 255) comes behind the text: how many. BAD; FULL.", EdgesOfTellingTest::typeIsFull);
    says("The text is empty: how many bytes it had.", EdgesOfTellingTest::wipes);
    says("The last byte of the text is undone: how many are left.", EdgesOfTellingTest::undoes);
    says("NOT: it is empty.", EdgesOfTellingTest::undoNot);
    says("The FAULT; NONE.", EdgesOfTellingTest::faultNone);
    says("of one of TENANTS as told. BAD.", EdgesOfTellingTest::tenantBad);
    says("of one of TENANTS as told. BAD.", EdgesOfTellingTest::tenantFigures);
  }

  private static void room() {
    says("Each FLOOR has ROOM for 1 to 8 TENANTS (2 at first).", EdgesOfTellingTest::roomAtFirst);
    says("Each FLOOR has ROOM for 1 to 8 TENANTS (2 at first).", EdgesOfTellingTest::roomForOne);
    says("Each FLOOR has ROOM for 1 to 8 TENANTS (2 at first).", EdgesOfTellingTest::roomForEight);
    says("ROOM: what it was. BAD.", EdgesOfTellingTest::roomBad);
  }

  private static void events() {
    says("EVENTS, 8 at most (0 on): a kind, a MONTH, a number 0 to 7", EdgesOfTellingTest::eventNumbers);
    says("An EVENT more: how many. BAD; FULL.", EdgesOfTellingTest::eventFull);
    says("0 a BILL for that one in it: 4 less LEFT", EdgesOfTellingTest::billInItsMonth);
    says("1 a GIFT: 3 more", EdgesOfTellingTest::giftInItsMonth);
    says("a number 0 to 7", EdgesOfTellingTest::firstAndLastNumber);
    says("2 an AUDIT in it (whatever number is told", EdgesOfTellingTest::auditOfAnyNumber);
    says("nothing of one that there is not", EdgesOfTellingTest::eventOfNobody);
    says("The last EVENT is undone: how many are left.", EdgesOfTellingTest::backTakesTheLast);
    says("NOT: there is none.", EdgesOfTellingTest::backNot);
  }

  private static void reading() {
    says("three for each, as many as are whole", EdgesOfTellingTest::readWhole);
    says("as long as each may be: how many.", EdgesOfTellingTest::readUntilRefused);
    says("EVENTS, 8 at most (0 on)", EdgesOfTellingTest::readUntilFull);
    says("EVENTS from a SHEET: its items", EdgesOfTellingTest::readOfEachForm);
    says("as long as each may be: how many. BAD; NULL.", EdgesOfTellingTest::readRefused);
  }

  private static void newIsEmpty() {
    FloorAbove x = new FloorAbove();
    due("tenants", x.count(0), 0);
    due("tenant(0, 0)", x.tenant(0, 0), BAD);
    due("bytes", x.count(1), 0);
    due("events", x.count(2), 0);
    due("room", x.count(5), 2);
    due("seen", x.count(7), 0);
    due("finding", x.count(8), 0);
  }

  private static void newSheetsAreLost() {
    for (int s = 0; s < 4; s++) {
      for (int form = 0; form < 3; form++) {
        FloorAbove x = new FloorAbove();
        due("get", x.get(s, form, 0), LEAST);
        due("finding", x.count(8), 1);
      }
      due("lose", new FloorAbove().lose(s), NULL);
    }
  }

  private static void thirtyOneBytes() {
    FloorAbove x = house(EIGHT);
    due("bytes", x.count(1), 31);
    due("one more", x.type(';'), FULL);
    due("bytes", x.count(1), 31);
    due("undo", x.undo(), 30);
    due("again", x.type('9'), 31);
    due("the last wage", x.tenant(7, 2), 9);
  }

  private static void eightTenants() {
    for (int n = 0; n <= 8; n++) {
      FloorAbove x = house(times(n, "c12"));
      due("tenants", x.count(0), n);
      for (int t = 0; t < 8; t++) due("tenant " + t + " of " + n, x.tenant(t, 2), t < n ? 2 : BAD);
      due("tenant 8", x.tenant(8, 2), BAD);
    }
  }

  private static void semicolons() {
    for (int place = 3; place < 31; place += 4) eachByte(place, ";");
    due("ahead", house(";o11").fault(), 0);
    due("twice", house("o11;;p22").fault(), 4);
    due("none", house("o11p22").fault(), 3);
    due("behind", house("o11;").fault(), 4);
  }

  private static void sorts() {
    for (int place = 0; place < 31; place += 4) eachByte(place, "opcr");
    for (int sort = 0; sort < 4; sort++) {
      due("sort", house("opcr".charAt(sort) + "00").tenant(0, 0), sort);
    }
  }

  private static void paidFigures() {
    for (int place = 1; place < 31; place += 4) eachByte(place, "0123456789");
    for (int paid = 0; paid <= 9; paid++) due("paid", house("o" + paid + "5").tenant(0, 1), paid);
  }

  private static void wageFigures() {
    for (int place = 2; place < 31; place += 4) eachByte(place, "0123456789");
    for (int wage = 0; wage <= 9; wage++) due("wage", house("o5" + wage).tenant(0, 2), wage);
  }

  /** Behind a good beginning each of 256 bytes is a FAULT, but for the good ones. */
  private static void eachByte(int place, String good) {
    for (int b = 0; b < 256; b++) {
      FloorAbove x = house(EIGHT.substring(0, place));
      x.type(b);
      boolean isGood = good.indexOf(b) >= 0;
      int open = place % 4 == 2 ? NONE : place + 1;
      due("byte " + b + " at " + place, x.fault(), isGood ? open : place);
      due("tenants", x.count(0), isGood && open == NONE ? place / 4 + 1 : 0);
    }
  }

  private static void firstFault() {
    String[] texts = {"xxx", "ox1;z", "o1x;z99", "o11xo11", "o11;p22;;;", "o11;p2p;;", EIGHT.replace("c22", "d22")};
    int[] places = {0, 1, 2, 3, 8, 6, 8};
    for (int i = 0; i < texts.length; i++) due(texts[i], house(texts[i]).fault(), places[i]);
    FloorAbove x = house("o1");
    x.type(255);
    x.type(0);
    due("bytes that are no signs", x.fault(), 2);
  }

  private static void emptyIsWell() {
    FloorAbove x = new FloorAbove();
    due("new", x.fault(), NONE);
    x.type('x');
    x.undo();
    due("undone", x.fault(), NONE);
    typed(x, "o1");
    x.wipe();
    due("wiped", x.fault(), NONE);
  }

  private static void notEnded() {
    for (int n = 1; n <= 31; n++) {
      due("of " + n + " bytes", house(EIGHT.substring(0, n)).fault(), n % 4 == 3 ? NONE : n);
    }
  }

  /** 31 bytes are just eight of them, so that the ninth's first byte never comes. */
  private static void noNinth() {
    FloorAbove x = house(EIGHT);
    due("a ; behind the eighth", x.type(';'), FULL);
    due("a ninth", x.type('o'), FULL);
    due("fault", x.fault(), NONE);
    due("tenants", x.count(0), 8);
  }

  private static void faultIsEmpty() {
    FloorAbove x = with(house("o50;c30;"), BILL, 3, 0, AUDIT, 4, 0);
    x.sheet(0, 0, 3);
    x.seen(0, 0, 6);
    FloorAbove y = with(new FloorAbove(), BILL, 3, 0, AUDIT, 4, 0);
    y.seen(0, 0, 6);
    due("fault", x.fault(), 8);
    for (int what = 3; what < 8; what++) due("count " + what, x.count(what), y.count(what));
    due("tenants", x.count(0), 0);
    due("bytes", x.count(1), 8);
    for (int m = 0; m < 24; m++) due("lift", x.lift(m), 0);
    for (int f = 0; f <= 12; f++) due("live", x.live(0, f), 0);
    for (int what = 0; what < 4; what++) due("sum", x.sum(what), 0);
    for (int what = 0; what < 3; what++) due("widen", x.widen(what), what == 0 ? 1 : 0);
    due("top", x.top(), NONE);
    due("heard", x.heard(), 0);
    due("spare", x.spare(NONE), 0);
    due("never", x.never(), 0);
    for (int seed = 0; seed < 9; seed++) due("houses", x.houses(seed, 8, 1), y.houses(seed, 8, 1));
    due("tenant", x.tenant(0, 0), BAD);
    due("at", x.at(0, 0, 0), LEAST);
    due("ends", x.ends(0, 0), LEAST);
    due("earn", x.earn(0, 0), BAD);
    due("be", x.be(0, 0), BAD);
    due("was", x.was(0, 0), BAD);
    due("ask", x.ask(0), BAD);
    due("chance", x.chance(8, 0, 0), Long.MIN_VALUE + 2);
    due("write", x.write(0, 0), BAD);
  }

  private static void faultIsMended() {
    FloorAbove x = house("c30");
    floors(x, 0, 4);
    x.type(';');
    due("nobody", x.live(0, 4), 0);
    x.undo();
    floors(x, 0, 4);
    typed(x, ";c30");
    floors(x, 0, 4, 4);
  }

  private static void typeIsByte() {
    FloorAbove x = new FloorAbove();
    outside("type", 0, 255, BAD, x::type);
    due("still empty", x.count(1), 0);
    due("0", x.type(0), 1);
    due("255", x.type(255), 2);
    due("bytes", x.count(1), 2);
  }

  private static void typeIsFull() {
    FloorAbove x = new FloorAbove();
    for (int n = 1; n <= 31; n++) due("type", x.type('o'), n);
    due("full", x.type('o'), FULL);
    due("full", x.type(0), FULL);
    outside("bad ahead of full", 0, 255, BAD, x::type);
    due("bytes", x.count(1), 31);
  }

  private static void wipes() {
    FloorAbove x = new FloorAbove();
    due("empty", x.wipe(), 0);
    typed(x, EIGHT);
    due("full", x.wipe(), 31);
    due("bytes", x.count(1), 0);
    due("tenants", x.count(0), 0);
    due("again", x.type('c'), 1);
    due("with a fault", x.wipe(), 1);
    typed(x, "c30");
    floors(x, 0, 4);
    with(x, BILL, 0, 0);
    x.seen(0, 0, 0);
    x.room(5);
    x.wipe();
    due("events stay", x.count(2), 1);
    due("seen stay", x.count(7), 1);
    due("room stays", x.count(5), 5);
  }

  private static void undoes() {
    FloorAbove x = house(EIGHT);
    for (int n = 30; n >= 0; n--) {
      due("left", x.undo(), n);
      due("tenants", x.count(0), n % 4 == 3 ? n / 4 + 1 : 0);
    }
  }

  private static void undoNot() {
    FloorAbove x = new FloorAbove();
    due("new", x.undo(), NOT);
    x.type('o');
    x.undo();
    due("undone", x.undo(), NOT);
    x.type('o');
    x.wipe();
    due("wiped", x.undo(), NOT);
    due("bytes", x.count(1), 0);
    due("the next is the first", x.type('o'), 1);
  }

  private static void faultNone() {
    for (int n = 0; n <= 8; n++) due(n + " tenants", house(times(n, "r09")).fault(), NONE);
  }

  private static void tenantBad() {
    for (int n = 0; n <= 8; n++) {
      FloorAbove x = house(times(n, "p45"));
      outside("tenant of " + n, 0, n - 1, BAD, t -> x.tenant(t, 0));
    }
    FloorAbove x = house("p45");
    outside("what", 0, 2, BAD, what -> x.tenant(0, what));
  }

  private static void tenantFigures() {
    FloorAbove x = house("o09;r90");
    int[][] due = {{0, 0, 9}, {3, 9, 0}};
    for (int t = 0; t < 2; t++) {
      for (int what = 0; what < 3; what++) due("tenant", x.tenant(t, what), due[t][what]);
    }
  }

  private static void roomAtFirst() {
    FloorAbove x = house("c10;c10;c10;c10;c10");
    floors(x, 0, 2, 2, 1, 1, 0);
    due("room", x.room(2), 2);
  }

  private static void roomForOne() {
    FloorAbove x = house("c20;c20;c20;c20;c20");
    due("room", x.room(1), 2);
    floors(x, 0, 3, 2, 1, 0, 0);
  }

  private static void roomForEight() {
    FloorAbove x = house(times(8, "c10"));
    due("room", x.room(8), 2);
    due("all on 2", x.live(0, 2), 255);
    due("room", x.room(7), 8);
    due("the last is below", x.live(0, 1), 128);
  }

  private static void roomBad() {
    FloorAbove x = house(times(8, "c10"));
    outside("room", 1, 8, BAD, x::room);
    due("as it was", x.count(5), 2);
    due("1", x.room(1), 2);
    outside("room", 1, 8, BAD, x::room);
    due("8", x.room(8), 1);
    outside("room", 1, 8, BAD, x::room);
    due("as it was", x.count(5), 8);
    due("all on 2", x.live(0, 2), 255);
  }

  private static void eventNumbers() {
    FloorAbove x = new FloorAbove();
    outside("kind", 0, 2, BAD, kind -> x.event(kind, 0, 0));
    outside("month", 0, 23, BAD, month -> x.event(0, month, 0));
    outside("number", 0, 7, BAD, number -> x.event(0, 0, number));
    outside("an audit's number too", 0, 7, BAD, number -> x.event(AUDIT, 0, number));
    due("events", x.count(2), 0);
    due("all least", x.event(0, 0, 0), 1);
    due("all greatest", x.event(2, 23, 7), 2);
  }

  private static void eventFull() {
    FloorAbove x = house("c90");
    for (int n = 1; n <= 8; n++) due("event", x.event(GIFT, 0, 0), n);
    due("full", x.event(BILL, 0, 0), FULL);
    due("full", x.event(AUDIT, 23, 7), FULL);
    due("bad ahead of full", x.event(3, 0, 0), BAD);
    due("bad ahead of full", x.event(0, 24, 0), BAD);
    due("bad ahead of full", x.event(0, 0, 8), BAD);
    due("events", x.count(2), 8);
    lefts(x, 27 + 24);
  }

  private static void billInItsMonth() {
    lefts(with(house("c90"), BILL, 2, 0), 27, 27, 23, 23);
    lefts(with(house("c90"), BILL, 0, 0), 23, 23);
    FloorAbove x = with(house("c90"), BILL, 23, 0);
    due("ahead of the last month", x.at(22, 0, 1), 27);
    due("in the last month", x.at(23, 0, 1), 23);
    lefts(with(house("c90"), BILL, 1, 0, BILL, 1, 0), 27, 19);
  }

  private static void giftInItsMonth() {
    lefts(with(house("c20"), GIFT, 2, 0), 6, 6, 9, 9);
    lefts(with(house("c20"), GIFT, 0, 0), 9, 9);
    FloorAbove x = with(house("c20"), GIFT, 23, 0);
    due("ahead of the last month", x.at(22, 0, 1), 6);
    due("in the last month", x.at(23, 0, 1), 9);
  }

  private static void firstAndLastNumber() {
    FloorAbove x = with(house(times(8, "c50")), BILL, 0, 0, GIFT, 0, 7);
    for (int t = 0; t < 8; t++) due("left of " + t, x.at(0, t, 1), t == 0 ? 11 : t == 7 ? 18 : 15);
  }

  private static void auditOfAnyNumber() {
    for (int number = 0; number < 8; number++) {
      FloorAbove x = with(house("c20;c30"), AUDIT, 1, number);
      floors(x, 0, 3, 4);
      floors(x, 1, 2, 3);
      floors(x, 2, 3, 4);
      due("left is as it was", x.at(1, 0, 1), 6);
    }
    FloorAbove x = with(house("o00;c30"), AUDIT, 5, 0);
    floors(x, 5, -1, 3);
    x = with(house("c30"), AUDIT, 5, 0, AUDIT, 5, 1);
    floors(x, 5, 3);
  }

  private static void eventOfNobody() {
    for (int number = 2; number < 8; number++) {
      FloorAbove x = with(house("c20;c30"), BILL, 1, number, GIFT, 1, number);
      floors(x, 1, 3, 4);
      due("left", x.at(1, 0, 1), 6);
      due("left", x.at(1, 1, 1), 9);
      due("it is told all the same", x.count(2), 2);
    }
    due("nobody at all", with(new FloorAbove(), BILL, 0, 0).sum(0), 0);
    FloorAbove x = with(house("c20"), BILL, 1, 1);
    typed(x, ";c30");
    due("who comes later is there", x.at(1, 1, 1), 5);
  }

  private static void backTakesTheLast() {
    FloorAbove x = with(house("c90"), BILL, 0, 0, BILL, 0, 0, GIFT, 0, 0);
    lefts(x, 22);
    due("back", x.back(), 2);
    lefts(x, 19);
    due("back", x.back(), 1);
    lefts(x, 23);
    for (int n = 2; n <= 8; n++) x.event(AUDIT, 5, 0);
    due("from eight", x.back(), 7);
    due("one more", x.event(GIFT, 0, 0), 8);
    lefts(x, 26);
  }

  private static void backNot() {
    FloorAbove x = new FloorAbove();
    due("new", x.back(), NOT);
    with(x, BILL, 0, 0);
    due("back", x.back(), 0);
    due("none", x.back(), NOT);
    due("events", x.count(2), 0);
    due("the next is the first", x.event(BILL, 0, 0), 1);
  }

  private static void readWhole() {
    int[] whole = {0, 0, 0, 1, 1, 1, 2, 2, 2, 3};
    for (int n = 0; n < whole.length; n++) {
      FloorAbove x = new FloorAbove();
      x.sheet(0, 0, n);
      due("of " + n + " items", x.read(0), whole[n]);
      due("events", x.count(2), whole[n]);
      due("the sheet is as it was", x.lose(0), n);
    }
  }

  private static void readUntilRefused() {
    int[][] ill = {{3, 0, 0}, {-1, 0, 0}, {0, 24, 0}, {0, -1, 0}, {0, 0, 8}, {0, 0, -1}};
    for (int[] one : ill) {
      for (int place = 0; place < 4; place++) {
        FloorAbove x = new FloorAbove();
        x.sheet(0, 2, 12);
        for (int i = 0; i < 3; i++) x.lay(0, 2, 3 * place + i, one[i]);
        due("an ill one at " + place, x.read(0), place);
        due("events", x.count(2), place);
        due("it is no finding", x.count(8), 0);
      }
    }
  }

  private static void readUntilFull() {
    for (int ahead = 0; ahead <= 8; ahead++) {
      FloorAbove x = house("c90");
      for (int n = 0; n < ahead; n++) x.event(AUDIT, 9, 0);
      x.sheet(0, 1, 60);
      due("behind " + ahead, x.read(0), 8 - ahead);
      due("events", x.count(2), 8);
      due("bills", x.at(0, 0, 1), 27 - 4 * (8 - ahead));
    }
  }

  private static void readOfEachForm() {
    for (int form = 0; form < 3; form++) {
      FloorAbove x = house(times(8, "c50"));
      x.sheet(3, form, 3);
      x.lay(3, form, 0, GIFT);
      x.lay(3, form, 1, 23);
      x.lay(3, form, 2, 7);
      due("read", x.read(3), 1);
      due("the gift", x.at(23, 7, 1), 18);
      x.lay(3, form, 0, 256);
      due("256 is 0 as a byte alone", x.read(3), form == 0 ? 1 : 0);
      x.lay(3, form, 0, 65536);
      due("65536 is 0 but as an int", x.read(3), form == 2 ? 0 : 1);
    }
  }

  private static void readRefused() {
    FloorAbove x = new FloorAbove();
    outside("read", 0, 3, BAD, x::read);
    due("no finding", x.count(8), 0);
    for (int s = 0; s < 4; s++) due("lost", x.read(s), NULL);
    due("finding", x.count(8), 1);
    x.sheet(2, 0, 3);
    x.lose(2);
    due("lost again", x.read(2), NULL);
    due("events", x.count(2), 0);
  }
}
