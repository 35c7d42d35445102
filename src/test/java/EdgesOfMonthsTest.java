/** The edges of what comes of it, MONTH by MONTH (promises 11 to 17, and the Terms they rest on). */
public final class EdgesOfMonthsTest extends Edges {
  public static void main(String[] args) throws Exception {
    begin(args);
    money();
    settled();
    floorsAnew();
    owing();
    falling();
    asked();
    summed();
    end();
  }

  private static void money() {
    says("at first three times the FLOORS paid for", EdgesOfMonthsTest::leftAtFirst);
    says("and all live on the landing", EdgesOfMonthsTest::landingAtFirst);
    says("first its EVENTS are done, as told (of who is not in the CELLAR)",
        EdgesOfMonthsTest::noEventsInTheCellar);
    says("In a MONTH first its EVENTS are done", EdgesOfMonthsTest::eventsComeFirst);
    says("each who is not in the CELLAR has more LEFT by the WAGE", EdgesOfMonthsTest::wages);
    says("a carried one by half of it, cut", EdgesOfMonthsTest::halfWages);
    says("half of the FLOOR on which one lived behind the MONTH ahead, cut, and 1", EdgesOfMonthsTest::rents);
    says("a prepaid one pays 1 less", EdgesOfMonthsTest::prepaidRents);
    says("a carried one none", EdgesOfMonthsTest::carriedRents);
    says("LEFT is 60 at most.", EdgesOfMonthsTest::sixtyAtMost);
    says("LEFT is 60 at most.", EdgesOfMonthsTest::sixtyIsNotKeptAbove);
  }

  private static void settled() {
    says("Whose LEFT is below 0 is SETTLED", EdgesOfMonthsTest::settledBelowZero);
    says("in the CELLAR, for good, with LEFT as it is", EdgesOfMonthsTest::settledForGood);
    says("but a roped one only below -6", EdgesOfMonthsTest::ropedBelowSix);
    says("Then all that are not SETTLED get their FLOORS anew", EdgesOfMonthsTest::settledTakesNoRoom);
  }

  private static void floorsAnew() {
    says("who has most LEFT first", EdgesOfMonthsTest::mostFirst);
    says("of like ones the least number", EdgesOfMonthsTest::leastNumberFirst);
    says("one WANTS the FLOOR that is a third of LEFT, cut, and 1 more on TRUST", EdgesOfMonthsTest::wants);
    says("(not in an AUDIT)", EdgesOfMonthsTest::wantsInAudit);
    says("12 at most", EdgesOfMonthsTest::twelveAtMost);
    says("(a roped one of LEFT below 0 WANTS none)", EdgesOfMonthsTest::ropedWantsNone);
    says("one gets the highest FLOOR, 1 at least, not above that, where there is ROOM",
        EdgesOfMonthsTest::highestWithRoom);
    says("else the landing", EdgesOfMonthsTest::elseTheLanding);
  }

  private static void owing() {
    says("One OWES the FLOOR, if it is above a third of LEFT, cut", EdgesOfMonthsTest::owesAbove);
    says("(of less than 0: above 0)", EdgesOfMonthsTest::owesBelowZero);
  }

  private static void falling() {
    says("Whoever lives by 2 FLOORS or more lower than behind the MONTH ahead FELL", EdgesOfMonthsTest::fellByTwo);
    says("into the CELLAR also: as from FLOOR to -1", EdgesOfMonthsTest::fellIntoTheCellar);
    says("past all who live, behind that MONTH, on FLOORS between both", EdgesOfMonthsTest::fellPast);
    says("(not on these; the landing counts as one)", EdgesOfMonthsTest::fellNotPastThese);
    says("the landing counts as one", EdgesOfMonthsTest::fellPastTheLanding);
    says("what was told undone", EdgesOfMonthsTest::fallsUndone);
  }

  private static void asked() {
    says("MONTHS are 0 to 23.", EdgesOfMonthsTest::months);
    says("whether one FELL (3). BAD: the least int.", EdgesOfMonthsTest::atBad);
    says("Who lives on a FLOOR (0 to 12), as bits. BAD.", EdgesOfMonthsTest::liveFloors);
    says("Who lives on a FLOOR (0 to 12), as bits. BAD.", EdgesOfMonthsTest::liveBits);
    says("THE LIFT STOPS at FLOORS (1 to 12) on which anybody lives and nobody OWES it, as bits (bit 1 on).",
        EdgesOfMonthsTest::liftBits);
    says("Where THE LIFT STOPS, as bits. BAD.", EdgesOfMonthsTest::liftBad);
    says("SETTLED of one: the MONTH; NONE.", EdgesOfMonthsTest::endsSettled);
    says("the highest FLOOR ever, behind a MONTH", EdgesOfMonthsTest::endsHighest);
    says("the highest FLOOR (3). BAD: the least int.", EdgesOfMonthsTest::endsBad);
  }

  private static void summed() {
    says("SUM: how many are SETTLED; how often all FELL; past how many", EdgesOfMonthsTest::sums);
    says("how many OWE, of all MONTHS together", EdgesOfMonthsTest::sumOwed);
    says("SUM: SETTLED (what = 0), FELL (1), past (2), OWE (3). BAD.", EdgesOfMonthsTest::sumBad);
    says("TOP: who lives highest behind MONTH 23, of like ones the least", EdgesOfMonthsTest::tops);
    says("NONE: all are in the CELLAR, there are none", EdgesOfMonthsTest::topNone);
    says("FLOORS 1 to 12 on which nobody ever lived behind a MONTH, below one on which somebody did",
        EdgesOfMonthsTest::heardBelow);
    says("below one on which somebody did, as bits (bit 1 on)", EdgesOfMonthsTest::heardNone);
  }

  // ---- LEFT

  private static void leftAtFirst() {
    for (int paid = 0; paid <= 9; paid++) lefts(house("c" + paid + "0"), 3 * paid, 3 * paid);
  }

  private static void landingAtFirst() {
    due("an ordinary one pays 1", house("o90").at(0, 0, 1), 26);
    due("a roped one pays 1", house("r90").at(0, 0, 1), 26);
    due("a prepaid one pays 0", house("p90").at(0, 0, 1), 27);
    due("nobody falls", house("o00;r90").at(0, 0, 3), 0);
  }

  private static void noEventsInTheCellar() {
    FloorAbove x = with(house("o00"), GIFT, 1, 0, GIFT, 1, 0, BILL, 2, 0, GIFT, 23, 0);
    for (int m = 0; m < 24; m++) {
      due("left", x.at(m, 0, 1), -1);
      due("floor", x.at(m, 0, 0), -1);
    }
    lefts(with(house("r00"), BILL, 6, 0, BILL, 7, 0), -1, -2, -3, -4, -5, -6, -11, -11);
  }

  private static void eventsComeFirst() {
    lefts(with(house("o01"), GIFT, 0, 0), 3);
    FloorAbove x = with(house("o00"), GIFT, 0, 0);
    due("a gift in time", x.at(0, 0, 0), 1);
    x = with(house("o09"), BILL, 0, 0, BILL, 0, 0);
    due("below 0 behind the bills, not behind the wage", x.at(0, 0, 1), 0);
    due("not settled", x.at(0, 0, 0), 1);
    x = with(house("o00"), BILL, 0, 0, GIFT, 0, 0, GIFT, 0, 0);
    lefts(x, 1);
    due("not settled between them", x.at(0, 0, 0), 1);
  }

  private static void wages() {
    for (int wage = 1; wage <= 9; wage++) {
      lefts(house("o0" + wage), wage - 1);
      lefts(house("p0" + wage), wage);
      lefts(house("r0" + wage), wage - 1);
    }
  }

  private static void halfWages() {
    for (int wage = 0; wage <= 9; wage++) lefts(house("c0" + wage), wage / 2, 2 * (wage / 2), 3 * (wage / 2));
    lefts(house("c09"), 4, 8, 12);
    lefts(house("c01"), 0, 0, 0);
  }

  /** With a WAGE of 1 one comes to each FLOOR up to 10 in MONTH 0, with more to 11 and 12. */
  private static void rents() {
    int[] rent = {1, 1, 2, 2, 3, 3, 4, 4, 5, 5, 6, 6, 7};
    for (String sort : new String[] {"o", "r"}) {
      for (int floor = 1; floor <= 10; floor++) {
        FloorAbove x = house(sort + (floor - 1) + "1");
        floors(x, 0, floor);
        lefts(x, 3 * floor - 3, 3 * floor - 3 + 1 - rent[floor]);
      }
      FloorAbove x = house(sort + "95");
      floors(x, 0, 11);
      lefts(x, 31, 31 + 5 - rent[11]);
      x = house(sort + "99");
      floors(x, 0, 12);
      lefts(x, 35, 35 + 9 - rent[12]);
    }
    FloorAbove x = roomFor(1, house("c00;o01"));
    floors(x, 22, 1, 0);
    due("on the landing, later too", x.at(23, 1, 1), 0);
  }

  private static void prepaidRents() {
    int[] rent = {0, 0, 1, 1, 2, 2, 3, 3, 4, 4, 5, 5, 6};
    for (int floor = 1; floor <= 10; floor++) {
      FloorAbove x = house("p" + (floor - 1) + "0");
      floors(x, 0, floor);
      lefts(x, 3 * floor - 3, 3 * floor - 3 - rent[floor]);
    }
    lefts(house("p94"), 31, 31 + 4 - rent[11]);
    lefts(house("p99"), 36, 36 + 9 - rent[12]);
    due("on floor 1 nothing is ever less", house("p00").at(23, 0, 1), 0);
  }

  private static void carriedRents() {
    for (int paid = 0; paid <= 9; paid++) due("left", house("c" + paid + "0").at(23, 0, 1), 3 * paid);
    due("nor on 12", house("c98").at(23, 0, 1) - house("c98").at(22, 0, 1), 0);
    due("nor on 12", house("c92").at(9, 0, 1) - house("c92").at(8, 0, 1), 1);
    due("on 12", house("c92").at(8, 0, 0), 12);
  }

  private static void sixtyAtMost() {
    lefts(house("c99"), 31, 35, 39, 43, 47, 51, 55, 59, 60, 60, 60);
    lefts(house("p99"), 36, 39, 42, 45, 48, 51, 54, 57, 60, 60, 60);
    due("to the end", house("c99").at(23, 0, 1), 60);
    due("below it nothing is cut", house("c92").at(23, 0, 1), 51);
    lefts(with(house("c93"), GIFT, 1, 0, GIFT, 1, 0, GIFT, 1, 0, GIFT, 1, 0, GIFT, 1, 0, GIFT, 1, 0,
        GIFT, 1, 0, GIFT, 1, 0), 28, 53, 54, 55, 56, 57, 58, 59, 60, 60);
  }

  private static void sixtyIsNotKeptAbove() {
    FloorAbove x = with(house("c99"), BILL, 12, 0, BILL, 12, 0);
    due("at the most", x.at(11, 0, 1), 60);
    due("less than that, not than more", x.at(12, 0, 1), 60 - 8 + 4);
    due("and up again", x.at(13, 0, 1), 60);
    x = with(house("p99"), BILL, 12, 0);
    due("wage and rent count together", x.at(12, 0, 1), 60 - 4 + 9 - 6);
  }

  // ---- SETTLED

  private static void settledBelowZero() {
    FloorAbove x = house("o10");
    lefts(x, 2, 1, 0, -1);
    floors(x, 2, 1);
    floors(x, 3, -1);
    for (String sort : new String[] {"o", "p", "c"}) {
      FloorAbove y = with(house(sort + "02"), BILL, 0, 0);
      due(sort + " is settled at once", y.ends(0, 0), 0);
    }
    floors(with(house("p04"), BILL, 0, 0), 0, 1);
    floors(with(house("p03"), BILL, 0, 0), 0, -1);
    floors(with(house("c08"), BILL, 0, 0), 0, 1);
    floors(with(house("c07"), BILL, 0, 0), 0, -1);
    floors(with(house("o05"), BILL, 0, 0), 0, 1);
    floors(with(house("o04"), BILL, 0, 0), 0, -1);
  }

  private static void settledForGood() {
    FloorAbove x = with(house("o09"), BILL, 0, 0, BILL, 0, 0, BILL, 0, 0, GIFT, 1, 0, GIFT, 1, 0, GIFT, 1, 0);
    for (int m = 0; m < 24; m++) {
      due("left", x.at(m, 0, 1), -4);
      due("floor", x.at(m, 0, 0), -1);
      due("owes", x.at(m, 0, 2), 0);
      due("fell", x.at(m, 0, 3), 0);
    }
    due("settled once", x.ends(0, 0), 0);
  }

  private static void ropedBelowSix() {
    FloorAbove x = house("r00");
    lefts(x, -1, -2, -3, -4, -5, -6, -7, -7);
    for (int m = 0; m < 6; m++) floors(x, m, 0);
    floors(x, 6, -1);
    x = with(house("r01"), BILL, 0, 0, BILL, 9, 0);
    lefts(x, -4, -4, -4);
    due("below -6 in one step", x.at(9, 0, 1), -8);
    due("settled", x.ends(0, 0), 9);
    x = with(house("r09"), BILL, 0, 0, BILL, 0, 0, BILL, 0, 0);
    lefts(x, -4, 4);
    floors(x, 0, 0);
    floors(x, 1, 2);
    due("just -6", with(house("r07"), BILL, 0, 0, BILL, 0, 0, BILL, 0, 0).at(0, 0, 0), 0);
    due("just -7", with(house("r06"), BILL, 0, 0, BILL, 0, 0, BILL, 0, 0).at(0, 0, 0), -1);
  }

  private static void settledTakesNoRoom() {
    FloorAbove x = roomFor(1, with(house("c30;c30"), BILL, 1, 0, BILL, 1, 0, BILL, 1, 0));
    floors(x, 0, 4, 3);
    floors(x, 1, -1, 4);
  }

  // ---- FLOORS

  private static void mostFirst() {
    FloorAbove x = roomFor(1, house("p30;p31;p32"));
    floors(x, 0, 2, 3, 4);
    x = roomFor(1, house("c10;p32;c20;p31"));
    floors(x, 0, 1, 4, 2, 3);
    x = roomFor(1, with(house("c30;c30"), BILL, 1, 0));
    floors(x, 0, 4, 3);
    floors(x, 1, 2, 4);
  }

  private static void leastNumberFirst() {
    FloorAbove x = roomFor(1, house(times(8, "c90")));
    floors(x, 0, 10, 9, 8, 7, 6, 5, 4, 3);
    floors(x, 23, 10, 9, 8, 7, 6, 5, 4, 3);
    x = roomFor(1, with(house("c20;c30"), GIFT, 2, 0));
    floors(x, 1, 3, 4);
    floors(x, 2, 4, 3);
  }

  private static void wants() {
    for (int paid = 0; paid <= 9; paid++) {
      for (int wage = 0; wage <= 9; wage++) {
        int left = 3 * paid + wage;
        floors(house("p" + paid + wage), 0, left >= 33 ? 12 : left / 3 + 1);
      }
    }
    floors(house("p02"), 0, 1);
    floors(house("p03"), 0, 2);
    floors(house("p95"), 0, 11);
    floors(house("p96"), 0, 12);
  }

  private static void wantsInAudit() {
    for (int paid = 0; paid <= 9; paid++) {
      for (int wage = 0; wage <= 9; wage++) {
        floors(with(house("p" + paid + wage), AUDIT, 0, 0), 0, (3 * paid + wage) / 3);
      }
    }
    floors(with(house("p02"), AUDIT, 0, 0), 0, 0);
    floors(with(house("p03"), AUDIT, 0, 0), 0, 1);
    floors(with(house("p98"), AUDIT, 0, 0), 0, 11);
    floors(with(house("p99"), AUDIT, 0, 0), 0, 12);
  }

  private static void twelveAtMost() {
    FloorAbove x = with(house("c99"), AUDIT, 10, 0);
    due("left", x.at(10, 0, 1), 60);
    for (int m = 2; m < 24; m++) floors(x, m, 12);
    x = roomFor(1, house(times(8, "c99")));
    floors(x, 23, 12, 11, 10, 9, 8, 7, 6, 5);
  }

  private static void ropedWantsNone() {
    floors(house("r00;c00"), 0, 0, 1);
    floors(house("r01"), 0, 1);
    floors(with(house("r00"), AUDIT, 0, 0), 0, 0);
    FloorAbove x = roomFor(1, house("r00;c00"));
    floors(x, 0, 0, 1);
    floors(x, 23, -1, 1);
  }

  private static void highestWithRoom() {
    floors(roomFor(1, house("c30;c20;c30")), 0, 4, 2, 3);
    floors(roomFor(2, house("c30;c30;c30;c20;c20;c20")), 0, 4, 4, 3, 3, 2, 2);
    floors(roomFor(3, house("c30;c30;c30;c30")), 0, 4, 4, 4, 3);
    floors(roomFor(1, house("c50;c50;c10")), 0, 6, 5, 2);
    floors(roomFor(1, house("c30;c10;c30;c10")), 0, 4, 2, 3, 1);
  }

  private static void elseTheLanding() {
    floors(roomFor(1, house("c00;c00;c00")), 0, 1, 0, 0);
    floors(roomFor(2, house("c00;c00;c00")), 0, 1, 1, 0);
    floors(roomFor(1, house(times(8, "c20"))), 23, 3, 2, 1, 0, 0, 0, 0, 0);
    FloorAbove x = roomFor(1, house("c20;o13;c20;c20"));
    floors(x, 0, 3, 0, 2, 1);
    due("nobody owes the landing", x.at(0, 1, 2), 0);
    floors(with(house("c00;c00"), AUDIT, 0, 0), 0, 0, 0);
  }

  // ---- OWES

  private static void owesAbove() {
    int[] wages = {0, 1, 2, 3, 4, 5, 6, 7, 8, 9};
    for (int wage : wages) {
      int left = 27 + wage;
      due("left " + left, house("p9" + wage).at(0, 0, 2), left < 36 ? 1 : 0);
    }
    FloorAbove x = roomFor(1, house("c30;c30;c30"));
    int[] owes = {1, 0, 0};
    for (int t = 0; t < 3; t++) due("owes", x.at(0, t, 2), owes[t]);
    due("on 1 with 2", house("p02").at(0, 0, 2), 1);
    x = roomFor(1, house("c10;p03"));
    due("on 1 with 3", x.at(0, 1, 2), 0);
    due("on 1", x.at(0, 1, 0), 1);
    due("in an audit", with(house("p35"), AUDIT, 0, 0).at(0, 0, 2), 0);
  }

  private static void owesBelowZero() {
    FloorAbove x = house("r00;o00");
    due("on the landing with -1", x.at(0, 0, 2), 0);
    due("on the landing with -6", x.at(5, 0, 2), 0);
    due("in the cellar with -7", x.at(6, 0, 2), 0);
    due("in the cellar with -1", x.at(0, 1, 2), 0);
    due("of all", x.sum(3), 0);
  }

  // ---- FELL

  private static void fellByTwo() {
    FloorAbove x = with(house("c32"), BILL, 1, 0);
    floors(x, 0, 4);
    floors(x, 1, 3);
    due("one is none", x.at(1, 0, 3), 0);
    due("one is none", x.ends(0, 1), 0);
    x = with(house("c32"), BILL, 1, 0, AUDIT, 1, 0);
    floors(x, 1, 2);
    due("two is one", x.at(1, 0, 3), 1);
    due("only in it", x.at(0, 0, 3) + x.at(2, 0, 3), 0);
    due("two is one", x.ends(0, 1), 1);
    x = with(house("c90"), BILL, 5, 0, BILL, 5, 0, BILL, 5, 0, BILL, 5, 0, BILL, 5, 0, BILL, 5, 0);
    floors(x, 5, 2);
    due("eight is one", x.ends(0, 1), 1);
    due("an audit alone is none", with(house("c30"), AUDIT, 1, 0).ends(0, 1), 0);
    x = with(house("c90"), BILL, 1, 0, BILL, 2, 0, BILL, 3, 0);
    floors(x, 3, 6);
    due("10, 8, 7, 6", x.ends(0, 1), 1);
    due("up is none", with(house("c00"), GIFT, 1, 0, GIFT, 1, 0, GIFT, 1, 0).ends(0, 1), 0);
  }

  private static void fellIntoTheCellar() {
    FloorAbove x = with(house("o01"), BILL, 3, 0);
    floors(x, 2, 1);
    floors(x, 3, -1);
    due("from 1", x.at(3, 0, 3), 1);
    due("from 1", x.ends(0, 1), 1);
    due("not again", x.at(4, 0, 3), 0);
    x = house("r00");
    due("from the landing", x.at(6, 0, 3), 0);
    due("from the landing", x.ends(0, 1), 0);
    due("in month 0", house("o00").ends(0, 1), 0);
    x = with(house("c90"), BILL, 1, 0, BILL, 1, 0, BILL, 1, 0, BILL, 1, 0, BILL, 1, 0, BILL, 1, 0, BILL, 1, 0);
    due("from 10", x.at(0, 0, 0), 10);
    due("from 10", x.ends(0, 0), 1);
    due("from 10", x.ends(0, 1), 1);
  }

  private static void fellPast() {
    FloorAbove x = roomFor(8, with(house("c50;c40;c30;c20;c10;c00"), BILL, 1, 0, BILL, 1, 0, BILL, 1, 0));
    floors(x, 1, 2, 5, 4, 3, 2, 1);
    due("from 6 to 2, past 5, 4 and 3", x.ends(0, 2), 3);
    x = roomFor(8, with(house("c90;" + times(7, "c40")), BILL, 1, 0, BILL, 1, 0, BILL, 1, 0, BILL, 1, 0,
        BILL, 1, 0));
    due("past seven on one floor", x.ends(0, 2), 7);
    x = roomFor(8, with(house("c50;c20"), GIFT, 1, 1, BILL, 1, 0, BILL, 1, 0));
    floors(x, 1, 3, 4);
    due("who has come there in it", x.ends(0, 2), 1);
    x = roomFor(8, with(house("c50;c40"), BILL, 1, 1, BILL, 1, 0, BILL, 1, 0));
    floors(x, 1, 3, 3);
    due("who has gone from there in it", x.ends(0, 2), 0);
    x = roomFor(8, with(house("c90;c50"), BILL, 1, 0, BILL, 1, 0, BILL, 2, 0, BILL, 2, 0));
    floors(x, 2, 4, 6);
    due("past one, once", x.ends(0, 2), 1);
    due("fell twice", x.ends(0, 1), 2);
    x = roomFor(8, with(house("c40;c50;c40"), BILL, 1, 1, BILL, 1, 1));
    floors(x, 1, 5, 3, 5);
    due("past the first and the last", x.ends(1, 2), 2);
  }

  private static void fellNotPastThese() {
    FloorAbove x = roomFor(8, with(house("c30;c30;c10"), BILL, 1, 0));
    floors(x, 0, 4, 4, 2);
    floors(x, 1, 2, 4, 2);
    due("on these", x.ends(0, 2), 0);
    x = roomFor(8, with(house("c30;c20;c40;c00"), BILL, 1, 0));
    due("between alone", x.ends(0, 2), 1);
    x = with(house("r21;r00;c00"), BILL, 1, 0, BILL, 1, 0);
    floors(x, 0, 3, 0, 1);
    floors(x, 1, 0, 0, 1);
    due("to the landing: not past who is there", x.ends(0, 2), 1);
    x = with(house("o01;o00"), BILL, 3, 0);
    due("to the cellar: not past who is there", x.ends(0, 2), 0);
  }

  private static void fellPastTheLanding() {
    FloorAbove x = with(house("o01;r00"), BILL, 3, 0);
    floors(x, 3, -1, 0);
    due("past the landing", x.ends(0, 2), 1);
    x = roomFor(1, with(house("c30;c00;c00;c00"), BILL, 1, 0, BILL, 1, 0, BILL, 1, 0));
    floors(x, 1, -1, 1, 0, 0);
    due("past 1 and the landing", x.ends(0, 2), 3);
  }

  private static void fallsUndone() {
    FloorAbove x = roomFor(8, with(house("c50;c40"), BILL, 1, 0, BILL, 1, 0));
    for (int again = 0; again < 3; again++) {
      due("fell", x.at(1, 0, 3), 1);
      due("how often", x.ends(0, 1), 1);
      due("past", x.ends(0, 2), 1);
      due("of all", x.sum(2), 1);
      x.back();
      x.back();
      due("no bill: fell", x.at(1, 0, 3), 0);
      due("no bill: how often", x.ends(0, 1), 0);
      due("no bill: past", x.ends(0, 2), 0);
      with(x, BILL, 1, 0, BILL, 1, 0);
    }
    x.room(1);
    floors(x, 1, 3, 5);
    x = with(house("o01"), BILL, 3, 0);
    due("settled", x.ends(0, 0), 3);
    x.undo();
    due("nobody", x.count(3), 0);
    x.type('9');
    due("not settled", x.ends(0, 0), NONE);
    due("not settled", x.count(3), 0);
  }

  // ---- what is asked

  private static void months() {
    FloorAbove x = house("c30");
    outside("at", 0, 23, LEAST, m -> x.at(m, 0, 0));
    outside("live", 0, 23, BAD, m -> x.live(m, 4));
    outside("lift", 0, 23, BAD, x::lift);
    outside("event", 0, 23, BAD, m -> x.event(AUDIT, m, 0));
    outside("seen", 0, 23, BAD, m -> x.seen(m, 0, 4));
    for (int m = 0; m < 24; m += 23) {
      due("at", x.at(m, 0, 0), 4);
      due("live", x.live(m, 4), 1);
      due("lift", x.lift(m), 0);
    }
    due("seen", x.seen(0, 0, 4), 1);
    due("seen", x.seen(23, 0, 4), 2);
    due("event", x.event(AUDIT, 0, 0), 1);
    due("event", x.event(AUDIT, 23, 0), 2);
    due("lift", x.lift(0), 1 << 3);
    due("lift", x.lift(23), 1 << 3);
  }

  private static void atBad() {
    FloorAbove x = house("c30;c20");
    for (int what = 0; what < 4; what++) {
      int w = what;
      outside("month", 0, 23, LEAST, m -> x.at(m, 0, w));
      outside("tenant", 0, 1, LEAST, t -> x.at(0, t, w));
    }
    outside("what", 0, 3, LEAST, what -> x.at(0, 0, what));
    due("nobody", new FloorAbove().at(0, 0, 0), LEAST);
  }

  private static void liveFloors() {
    FloorAbove x = roomFor(8, house("r00;c00;c90;p99"));
    outside("floor", 0, 12, BAD, f -> x.live(0, f));
    int[] due = {1, 2, 0, 0, 0, 0, 0, 0, 0, 0, 4, 0, 8};
    for (int f = 0; f <= 12; f++) due("floor " + f, x.live(0, f), due[f]);
    due("the cellar is no floor", x.live(6, -1), BAD);
    due("whoever is in it lives nowhere", x.live(6, 0), 0);
    due("nobody", new FloorAbove().live(0, 0), 0);
  }

  private static void liveBits() {
    FloorAbove x = roomFor(8, house(times(8, "c40")));
    due("all", x.live(0, 5), 255);
    due("none", x.live(0, 4), 0);
    with(x, BILL, 1, 7);
    due("the last", x.live(1, 3), 128);
    due("the others", x.live(1, 5), 127);
  }

  private static void liftBits() {
    due("at 12", house("p99").lift(0), 1 << 12);
    due("not, if one owes", house("p95").lift(0), 0);
    due("at 1", with(house("c10"), AUDIT, 0, 0).lift(0), 1 << 1);
    due("not at the landing", with(house("c00"), AUDIT, 0, 0).lift(0), 0);
    due("not at the cellar", house("o00").lift(0), 0);
    due("nobody", new FloorAbove().lift(0), 0);
    FloorAbove x = roomFor(1, house(times(8, "c90")));
    due("all but the first", x.lift(0), 0x3F8);
    x = roomFor(8, with(house("p35;c30;p33"), AUDIT, 0, 0));
    due("two floors", x.lift(0), 1 << 3 | 1 << 4);
    due("one who owes is enough", roomFor(2, house("c30;c30;c30;c20")).lift(0), 0);
    due("none who owes is left", roomFor(2, house("c30;c30;c30;c10")).lift(0), 1 << 3);
  }

  private static void liftBad() {
    outside("lift", 0, 23, BAD, house("p99")::lift);
    outside("lift of nobody", 0, 23, BAD, new FloorAbove()::lift);
  }

  private static void endsSettled() {
    due("in month 0", house("o00").ends(0, 0), 0);
    due("in month 23", with(house("o01"), BILL, 23, 0).ends(0, 0), 23);
    due("never", house("o01").ends(0, 0), NONE);
    FloorAbove x = house("r00;o10;c00");
    due("roped", x.ends(0, 0), 6);
    due("ordinary", x.ends(1, 0), 3);
    due("carried", x.ends(2, 0), NONE);
  }

  private static void endsHighest() {
    due("never above the cellar", house("o00").ends(0, 3), -1);
    due("the landing", house("r00").ends(0, 3), 0);
    due("12", house("p99").ends(0, 3), 12);
    due("the first floor", house("c00").ends(0, 3), 1);
    due("in month 23 alone", with(house("c00"), GIFT, 23, 0).ends(0, 3), 2);
    due("in month 0 alone", with(house("c50"), BILL, 1, 0).ends(0, 3), 6);
  }

  private static void endsBad() {
    FloorAbove x = house("c30;c20");
    for (int what = 0; what < 4; what++) {
      int w = what;
      outside("tenant", 0, 1, LEAST, t -> x.ends(t, w));
    }
    outside("what", 0, 3, LEAST, what -> x.ends(0, what));
    due("nobody", new FloorAbove().ends(0, 0), LEAST);
  }

  private static void sums() {
    FloorAbove x = house(times(8, "o00"));
    due("all are settled", x.sum(0), 8);
    due("none fell", x.sum(1), 0);
    x = house(times(8, "c00"));
    due("none is settled", x.sum(0), 0);
    x = roomFor(8, with(house("c50;c50;c30"), BILL, 1, 0, BILL, 1, 0, BILL, 2, 1, BILL, 2, 1));
    due("fell", x.sum(1), 2);
    due("past", x.sum(2), 2);
    x = roomFor(8, with(house("o01;o01;r01"), BILL, 0, 2, BILL, 3, 0, BILL, 23, 1));
    due("settled in 3 and in 23", x.sum(0), 2);
    due("fell", x.sum(1), 2);
    due("past the landing, twice", x.sum(2), 2);
    for (int what = 0; what < 4; what++) due("nobody", new FloorAbove().sum(what), 0);
  }

  private static void sumOwed() {
    due("all, always", roomFor(8, house(times(8, "c00"))).sum(3), 8 * 24);
    due("but in month 0", with(house("c00"), AUDIT, 0, 0).sum(3), 23);
    due("but in month 23", with(house("c00"), AUDIT, 23, 0).sum(3), 23);
    due("none", house("o00").sum(3), 0);
  }

  private static void sumBad() {
    outside("what", 0, 3, BAD, house("c00")::sum);
    outside("what of nobody", 0, 3, BAD, new FloorAbove()::sum);
  }

  private static void tops() {
    due("the highest", house("c00;c10;c20").top(), 2);
    due("of like ones", house("c00;c20;c20").top(), 1);
    due("of all like", house("c20;c20").top(), 0);
    due("behind month 23", with(house("c20;c10"), BILL, 23, 0).top(), 1);
    due("the landing", with(house("o00;r01"), BILL, 0, 1).top(), 1);
    due("of like ones on the landing", with(house("o00;c00;c00"), AUDIT, 23, 0).top(), 1);
    due("the last", house(times(7, "o00") + ";c00").top(), 7);
  }

  private static void topNone() {
    due("none", new FloorAbove().top(), NONE);
    due("in the cellar", house("o00").top(), NONE);
    due("all in the cellar", house("o00;r00;o50").top(), NONE);
    due("settled in month 23", with(house("o01"), BILL, 23, 0).top(), NONE);
  }

  private static void heardBelow() {
    due("1 to 11", house("p99").heard(), 0xFFE);
    due("1", house("c10").heard(), 1 << 1);
    due("11", roomFor(1, house("p99;" + "c90;c80;c70;c60;c50;c40;c30")).heard(), 1 << 11 | 1 << 1 | 1 << 2 | 1 << 3);
    due("lived on once is enough", with(house("c10"), BILL, 23, 0, GIFT, 23, 0).heard(), 0);
    due("below one of once", with(house("c00"), GIFT, 23, 0, GIFT, 23, 0).heard(), 1 << 2);
    due("below one of month 0", with(house("c50"), BILL, 1, 0).heard(), 1 << 1 | 1 << 2 | 1 << 3 | 1 << 5);
  }

  private static void heardNone() {
    due("nobody", new FloorAbove().heard(), 0);
    due("on 1", house("c00").heard(), 0);
    due("on the landing", house("r00").heard(), 0);
    due("in the cellar", house("o00").heard(), 0);
    due("above the highest", house("c10;c00").heard(), 0);
  }
}
