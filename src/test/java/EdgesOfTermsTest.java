/** The document's terms, sections 1 and 2: a test for each sentence that names an edge. */
public final class EdgesOfTermsTest {
  private static final Due due = new Due("EdgesOfTermsTest");
  private static final int BAD = -1, NOT = -2, FULL = -3;

  public static void main(String[] args) {
    usedFor512Calls();
    pages();
    places();
    sizes();
    placeZeroFirst();
    readers();
    marksAtFirst();
    tickAtFirst();
    days();
    campaigns();
    wishBits();
    bidsCountAsTold();
    capAtFirst();
    throttleAtFirst();
    apartIsOfBoth();
    apartOfFarNumbers();
    promisedPaysNothing();
    chanceOfEarlierTicks();
    chanceWithoutTakenBack();
    worthByShowing();
    worthByPress();
    worthOfOneBehind();
    worthOfHouse();
    hindersInOrder();
    capWithinSpan();
    capOfNine();
    lessThanBidIsLeft();
    bidAndNotPriceIsAskedFor();
    keptAsideIsNotLeft();
    leftInAllOverDays();
    noBudgetIsAsked();
    drawNotBelowThrottle();
    leastThrottleLetsDrawZero();
    apartOnThatPageAtThisTick();
    itself();
    takenBackHinderNothing();
    drawWrapsAround();
    givingsOfNone();
    noCampaignTwice();
    noneApart();
    greatestSum();
    allCampaignsAtOnce();
    mostPlacesFilled();
    lesserFirst();
    lesserFirstAtEachPlace();
    noneIsGreaterThanAll();
    salesInOrderOfPlaces();
    due.end();
  }

  private static void usedFor512Calls() {
    due.says("An object is used for at most 512 calls after it has been made");
    NoticeMarket m = Setup.market(100);
    Setup.house(m);
    for (int call = 3; call <= 507; call += 3) {
      due.is("come, call " + call, m.come(call % 100, 0), 1);
      due.is("chance then", m.chance(0), 1000000 / (call / 3 - 1 + 20));
      due.is("tick then", m.tick(1), call / 3);
    }
    due.is("call 510", m.count(2), 169);
    due.is("call 511", m.count(3), 169);
    due.is("call 512", m.sale(168, 1), 507 % 100);
  }

  private static void pages() {
    due.says("PAGES 0 .. 7, as they were made");
    NoticeMarket m = new NoticeMarket();
    due.is("come to page 0 before it is made", m.come(0, 0), BAD);
    for (int page = 0; page < 8; page++) {
      due.is("income before it is made", m.income(page), BAD);
      due.is("page", m.page(50), page);
      due.is("income", m.income(page), 0);
    }
    due.is("page 8", m.page(50), FULL);
    due.is("come to page 8", m.come(0, 8), BAD);
    due.is("come to page 7", m.come(0, 7), 0);
  }

  private static void places() {
    due.says("each with 1 to 4 PLACES");
    for (int places = 1; places <= 4; places++) {
      NoticeMarket m = new NoticeMarket();
      int sizes = 0;
      for (int i = 0; i < places; i++) sizes = sizes * 128 + 100;
      due.is("page", m.page(sizes), 0);
      Setup.houses(m, 5);
      for (int place = 0; place < places; place++) due.is("give " + place, m.give(0, 0, place), place);
      due.is("no place " + places, m.give(0, 0, places), BAD);
      due.is("come", m.come(0, 0), places);
    }
    NoticeMarket m = new NoticeMarket();
    due.is("no places", m.page(0), BAD);
    due.is("5 places", m.page(Setup.sizes(1, 1, 1, 1, 1)), BAD);
  }

  private static void sizes() {
    due.says("SIZES (percents, 1 .. 100: how much a bid counts there");
    int[][] wrong = {{0}, {101}, {127}, {1, 0}, {1, 101}, {101, 1}, {127, 127}, {100, 127, 100}, {1, 1, 1, 101}, {101, 1, 1, 1}};
    for (int[] each : wrong) due.is("page " + each[0] + " ..", new NoticeMarket().page(Setup.sizes(each)), BAD);
    int[][] good = {{1}, {100}, {1, 100}, {100, 1}, {1, 1, 1, 1}, {100, 100, 100, 100}, {1, 2, 99, 100}};
    for (int[] each : good) {
      NoticeMarket m = new NoticeMarket();
      due.is("page " + each[0] + " ..", m.page(Setup.sizes(each)), 0);
      Setup.bidder(m, 0, 100);
      int greatest = 0;
      for (int size : each) greatest = Math.max(greatest, size);
      due.is("best", m.best(0, 0), 1000000L * greatest);
    }
  }

  private static void placeZeroFirst() {
    due.says("how much a bid counts there, place 0's first");
    NoticeMarket m = Setup.market(4, 3, 2, 1);
    for (int c = 0; c < 4; c++) Setup.bidder(m, 0, 100 * (10 - c));
    due.is("come", m.come(0, 0), 4);
    int[] prices = {40, 27, 16, 7};
    for (int i = 0; i < 4; i++) due.is("price at place " + i, m.sale(i, 5), prices[i]);
  }

  private static void readers() {
    due.says("READERS 0 .. 99");
    NoticeMarket m = Setup.market(100);
    Setup.house(m);
    int[] wrong = {-1, 100, Setup.LEAST, Setup.MOST};
    for (int reader : wrong) {
      due.is("marks of " + reader, m.marks(reader, 1), BAD);
      due.is("come of " + reader, m.come(reader, 0), BAD);
      due.is("why of " + reader, m.why(0, reader, 0), BAD);
      due.is("best of " + reader, m.best(reader, 0), BAD);
      due.is("give of " + reader, m.give(reader, 0, 0), BAD);
      due.is("draw of " + reader, m.draw(0, reader), BAD);
    }
    for (int reader = 0; reader <= 99; reader += 99) {
      due.is("come of " + reader, m.come(reader, 0), 1);
      m.tick(1);
    }
    due.is("reader of sale 0", m.sale(0, 1), 0);
    due.is("reader of sale 1", m.sale(1, 1), 99);
  }

  private static void marksAtFirst() {
    due.says("MARKS (12 bits; 0 at first)");
    NoticeMarket m = Setup.market(100);
    m.campaign(20, 4095, 0);
    for (int reader = 0; reader < 100; reader++) {
      due.is("none of the bits, reader " + reader, m.why(0, reader, 0), 0);
      due.is("marks of " + reader, m.marks(reader, 4095), 0);
    }
    for (int reader = 0; reader < 100; reader++) due.is("12 bits", m.marks(reader, 2048), 4095);
    due.is("the highest bit", m.marks(99, 0), 2048);
    due.is("a 13th", m.marks(99, 4096), BAD);
  }

  private static void tickAtFirst() {
    due.says("TICK is a count, 0 at first");
    NoticeMarket m = Setup.market(100);
    Setup.house(m);
    due.is("TICK", m.count(3), 0);
    m.come(0, 0);
    due.is("TICK of a sale", m.sale(0, 0), 0);
    due.is("the next one", m.tick(1), 1);
  }

  private static void days() {
    due.says("a DAY has 100 TICKS: DAY d are the ticks 100 d .. 100 d + 99");
    NoticeMarket m = Setup.market(100);
    Setup.bidder(m, 0, 10);
    int[][] useAt = {{0, 10}, {99, 20}, {100, 10}, {199, 20}, {200, 10}, {9999, 10}, {10000, 10}};
    for (int[] at : useAt) {
      Setup.tickTo(m, at[0]);
      m.come(0, 0);
      due.is("used of the DAY at " + at[0], m.told(0, 1), at[1]);
      due.is("left of the DAY at " + at[0], m.told(0, 7), 1000000 - at[1]);
    }
    due.is("in all", m.told(0, 0), 70);
  }

  private static void campaigns() {
    due.says("CAMPAIGNS 0 .. 39, as they were made");
    NoticeMarket m = Setup.market(100);
    for (int c = 0; c < 40; c++) {
      due.is("chance before it is made", m.chance(c), BAD);
      due.is("campaign", m.campaign(20, 0, 0), c);
      due.is("chance", m.chance(c), 50000);
    }
    due.is("campaign 40", m.campaign(20, 0, 0), FULL);
    int[] wrong = {-1, 40, Setup.LEAST, Setup.MOST};
    for (int c : wrong) {
      due.is("budget of " + c, m.budget(c, 1, 1), BAD);
      due.is("cap of " + c, m.cap(c, 1, 1), BAD);
      due.is("apart of " + c, m.apart(c, 0, 1), BAD);
      due.is("apart from " + c, m.apart(0, c, 1), BAD);
      due.is("promise of " + c, m.promise(c, 1, 0), BAD);
      due.is("stop of " + c, m.stop(c, 1), BAD);
      due.is("why of " + c, m.why(c, 0, 0), BAD);
      due.is("told of " + c, m.told(c, 0), -2000000);
      due.is("chance of " + c, m.chance(c), BAD);
      due.is("draw of " + c, m.draw(c, 0), BAD);
    }
  }

  /** Reader b has bit b alone, reader 12 + b all bits but that one. */
  private static void wishBits() {
    due.says("a WISH: bits that a reader must have, and bits that it must not");
    NoticeMarket m = Setup.market(100);
    for (int b = 0; b < 12; b++) {
      m.marks(b, 1 << b);
      m.marks(12 + b, 4095 - (1 << b));
      int must = m.campaign(20, 4096 << b, 0);
      int mustNot = m.campaign(20, 1 << b, 0);
      due.is("must have " + b + ", has it", m.why(must, b, 0), 0);
      due.is("must have " + b + ", has all others", m.why(must, 12 + b, 0), 2);
      due.is("must not have " + b + ", has it", m.why(mustNot, b, 0), 2);
      due.is("must not have " + b + ", has all others", m.why(mustNot, 12 + b, 0), 0);
    }
    int all = m.campaign(20, 4096 * 4095, 0);
    due.is("must have all, has 11", m.why(all, 12, 0), 2);
    m.marks(12, 4095);
    due.is("must have all, has all", m.why(all, 12, 0), 0);
  }

  private static void bidsCountAsTold() {
    due.says("a BID (1 .. 1000 coins; of HOUSE 0)");
    NoticeMarket m = Setup.market(100);
    Setup.bidder(m, 0, 1);
    due.is("the least", m.best(0, 0), 1000000);
    Setup.bidder(m, 0, 1000);
    due.is("the greatest", m.best(0, 0), 1000000000);
    int[][] wrong = {{0, 0}, {0, 1001}, {1, 0}, {1, 1001}, {10, 0}, {10, 1001}, {20, 1}, {20, -1}};
    for (int[] w : wrong) due.is("campaign of " + w[0] + ", " + w[1], m.campaign(w[0], 0, w[1]), BAD);
  }

  /** One campaign can't be shown to a reader more than 8 times within one tick, as there are 8 pages. */
  private static void capAtFirst() {
    due.says("CAP 1 .. 9, SPAN 1 .. 1000; at first 9 and 1");
    NoticeMarket m = new NoticeMarket();
    for (int page = 0; page < 8; page++) m.page(100);
    Setup.house(m);
    for (int tick = 0; tick < 4; tick++) {
      for (int page = 0; page < 8; page++) due.is("come", m.come(3, page), 1);
      m.tick(1);
    }
    m.cap(0, 8, 1);
    for (int page = 0; page < 7; page++) m.come(3, page);
    due.is("7 of 8", m.why(0, 3, 7), 0);
    m.cap(0, 7, 1);
    due.is("7 of 7", m.why(0, 3, 7), 3);
  }

  private static void throttleAtFirst() {
    due.says("a THROTTLE (0 .. 1000; 1000 at first)");
    int tick = Setup.tickOfDraw(999, 0, 1);
    NoticeMarket m = Setup.market(100);
    Setup.bidder(m, 0, 1);
    due.is("at first", m.told(0, 5), 1000);
    Setup.tickTo(m, tick);
    int reader = Setup.readerOfDraw(999, 0, tick);
    due.is("the greatest DRAW", m.draw(0, reader), 999);
    due.is("it hinders nothing", m.why(0, reader, 0), 0);
  }

  private static void apartIsOfBoth() {
    due.says("APART: a set of other campaigns (told of either, it is of both)");
    NoticeMarket m = Setup.market(100, 100);
    Setup.houses(m, 3);
    due.is("told of 2", m.apart(2, 0, 1), 0);
    due.is("of 0, too", m.apart(0, 2, 1), 1);
    due.is("not of 1", m.apart(0, 1, 0), 0);
    due.is("not of 1 and 2", m.apart(1, 2, 0), 0);
    due.is("come", m.come(0, 0), 2);
    due.is("2 is hindered by 0", m.why(2, 0, 0), 6);
    m.refund(0);
    due.is("1 alone hinders 2 no more", m.why(2, 0, 0), 0);
    m.stop(0, 1);
    due.is("2 is shown", m.come(0, 0), 1);
    m.stop(0, 0);
    due.is("0 is hindered by 2", m.why(0, 0, 0), 6);
    due.is("untold of 0", m.apart(0, 2, 0), 1);
    due.is("untold of 2, too", m.apart(2, 0, 0), 0);
    due.is("nothing hinders 0", m.why(0, 0, 0), 0);
  }

  /** Numbers that are 32 from each other are the same as shifts of an int. */
  private static void apartOfFarNumbers() {
    due.says("APART: a set of other campaigns");
    NoticeMarket m = Setup.market(100);
    Setup.houses(m, 40);
    m.apart(39, 0, 1);
    for (int c = 1; c < 39; c++) {
      due.is("0 and " + c, m.apart(0, c, 0), 0);
      due.is("39 and " + c, m.apart(39, c, 0), 0);
    }
    due.is("0 and 39", m.apart(0, 39, 1), 1);
    for (int c = 0; c < 39; c++) m.stop(c, 1);
    m.come(5, 0);
    due.is("39 was shown", m.sale(0, 4), 39);
    for (int c = 0; c < 39; c++) {
      m.stop(c, 0);
      due.is("why " + c, m.why(c, 5, 0), c == 0 ? 6 : 0);
    }
  }

  private static void promisedPaysNothing() {
    due.says("its BID counts as told, but it pays nothing");
    NoticeMarket m = Setup.market(100);
    m.campaign(10, 0, 1000);
    due.is("its worth", m.best(0, 0), 1000000000);
    for (int rule = 0; rule < 2; rule++) {
      m.rule(rule);
      m.come(0, 0);
      due.is("price", m.sale(rule, 5), 0);
      due.is("pressed", m.press(rule), 1);
      due.is("back", m.refund(rule), 0);
      m.tick(1);
    }
    due.is("spent", m.told(0, 0), 0);
  }

  private static void chanceOfEarlierTicks() {
    due.says("of its SALES that were shown at ticks less than TICK, and of these those that were pressed at ticks less than TICK");
    NoticeMarket m = Setup.market(100);
    Setup.bidder(m, 1, 10);
    m.come(0, 0);
    due.is("shown at this tick", m.chance(0), 50000);
    m.press(0);
    due.is("and pressed at it", m.chance(0), 50000);
    m.tick(1);
    due.is("2 of 21", m.chance(0), 95238);
    m.come(0, 0);
    m.tick(1);
    due.is("2 of 22", m.chance(0), 90909);
    m.press(1);
    due.is("pressed at this tick", m.chance(0), 90909);
    m.tick(1);
    due.is("3 of 22", m.chance(0), 136363);
  }

  private static void chanceWithoutTakenBack() {
    due.says("none that are taken back");
    NoticeMarket m = Setup.market(100);
    Setup.house(m);
    for (int i = 0; i < 4; i++) {
      m.come(0, 0);
      if (i != 2) m.press(i);
      m.tick(1);
    }
    due.is("4 of 24", m.chance(0), 166666);
    m.refund(2);
    due.is("an unpressed one is back: 4 of 23", m.chance(0), 173913);
    m.refund(3);
    due.is("a pressed one is back: 3 of 22", m.chance(0), 136363);
    m.come(0, 0);
    m.press(4);
    m.refund(4);
    due.is("one of this tick", m.chance(0), 136363);
    m.press(0);
    m.refund(0);
    m.refund(1);
    due.is("none is left", m.chance(0), 50000);
    m.tick(1);
    due.is("none is left then", m.chance(0), 50000);
  }

  private static void worthByShowing() {
    due.says("by showing: 10000 times BID times SIZE");
    int[][] bidSizes = {{1, 1}, {1, 100}, {1000, 1}, {1000, 100}, {7, 13}};
    for (int[] bs : bidSizes) {
      NoticeMarket m = Setup.market(bs[1]);
      Setup.bidder(m, 0, bs[0]);
      due.is("worth of " + bs[0] + " at " + bs[1], m.best(0, 0), 10000L * bs[0] * bs[1]);
    }
    NoticeMarket m = Setup.market(100, 100, 100, 100);
    for (int c = 0; c < 4; c++) Setup.bidder(m, 0, 1000);
    due.is("four sum beyond an int", m.best(0, 0), 4000000000L);
  }

  private static void worthByPress() {
    due.says("times (presses and 1), divided by (showings and 20), the rest away");
    NoticeMarket m = Setup.market(1);
    Setup.bidder(m, 1, 1);
    due.is("10000 / 20", m.best(0, 0), 500);
    m.come(0, 0);
    m.tick(1);
    due.is("10000 / 21", m.best(0, 0), 476);
    m.press(0);
    m.tick(1);
    due.is("10000 * 2 / 21 and not 2 * 476", m.best(0, 0), 952);
    m.come(0, 0);
    m.come(0, 0);
    m.press(1);
    m.tick(1);
    due.is("10000 * 3 / 22", m.best(0, 0), 1363);
    NoticeMarket k = Setup.market(100);
    Setup.bidder(k, 1, 1000);
    for (int i = 0; i < 30; i++) {
      k.come(0, 0);
      k.press(i);
      k.tick(1);
    }
    due.is("times 31 goes beyond an int", k.best(0, 0), 620000000);
  }

  private static void worthOfOneBehind() {
    due.says("If it is PROMISED and BEHIND (section 4), 1000000000 more");
    NoticeMarket m = Setup.market(100, 1, 100, 100);
    for (int c = 0; c < 4; c++) m.campaign(10, 0, 1000);
    due.is("not behind", m.best(0, 0), 3010000000L);
    for (int c = 0; c < 4; c++) m.promise(c, 1000, 0);
    due.is("not yet", m.best(0, 0), 3010000000L);
    m.tick(1);
    due.is("four behind", m.best(0, 0), 7010000000L);
    m.stop(3, 1);
    due.is("three behind", m.best(0, 0), 6000000000L);
  }

  private static void worthOfHouse() {
    due.says("Of HOUSE it is 0");
    NoticeMarket m = Setup.market(100, 100);
    Setup.houses(m, 2);
    due.is("best", m.best(0, 0), 0);
    due.is("give", m.give(0, 0, 1), 1);
    Setup.bidder(m, 0, 1);
    Setup.bidder(m, 0, 1);
    due.is("the least bid is more", m.give(0, 0, 0), 2);
    due.is("and the other", m.give(0, 0, 1), 3);
  }

  /** All seven hinder at first; what is answered is taken away until nothing hinders. */
  private static void hindersInOrder() {
    due.says("if, in this order, nothing HINDERS");
    int tick = Setup.tickOfDraw(950, 0, 11);
    int high = Setup.readerOfDraw(950, 0, tick);
    int shown = firstBelow(900, tick, high, -1);
    int low = firstBelow(900, tick, high, shown);
    NoticeMarket m = Setup.market(100, 100);
    m.page(100);
    m.campaign(0, 4096, 10);
    m.budget(0, 50, 1000);
    Setup.house(m);
    for (int reader : new int[] {high, shown, low}) m.marks(reader, 1);
    m.pace(10, 50);
    m.come(high, 1);
    Setup.tickTo(m, 10);
    due.is("throttle", m.told(0, 5), 900);
    m.pace(0, 50);
    Setup.tickTo(m, tick);
    due.is("both are shown", m.come(shown, 0), 2);
    m.apart(0, 1, 1);
    m.budget(0, 0, 0);
    m.cap(0, 1, 1000);
    m.marks(high, 0);
    m.stop(0, 1);
    due.is("stopped", m.why(0, high, 0), 1);
    m.stop(0, 0);
    due.is("marks", m.why(0, high, 0), 2);
    m.marks(high, 1);
    due.is("cap", m.why(0, high, 0), 3);
    m.cap(0, 2, 1000);
    due.is("budget", m.why(0, high, 0), 4);
    m.budget(0, 1000, 1000);
    due.is("throttle", m.why(0, high, 0), 5);
    due.is("apart", m.why(0, low, 0), 6);
    m.apart(0, 1, 0);
    due.is("itself", m.why(0, low, 0), 7);
    due.is("nothing", m.why(0, low, 1), 0);
  }

  private static int firstBelow(int draw, int tick, int notThis, int norThis) {
    for (int reader = 0; reader < 100; reader++) {
      if (reader != notThis && reader != norThis && Setup.drawn(tick, reader, 0) < draw) return reader;
    }
    throw new IllegalStateException("no draw below " + draw);
  }

  private static void capWithinSpan() {
    due.says("so many SALES to it at the ticks TICK - SPAN + 1 .. TICK");
    NoticeMarket m = Setup.market(100);
    m.page(100);
    Setup.house(m);
    m.tick(7);
    m.come(5, 0);
    int[] spans = {1, 2, 3, 99, 100, 101, 999, 1000};
    for (int span : spans) {
      Setup.tickTo(m, 7 + span - 1);
      m.cap(0, 1, span);
      due.is("SPAN " + span + ", the last tick", m.why(0, 5, 1), 3);
      due.is("not of another reader", m.why(0, 6, 1), 0);
      m.tick(1);
      due.is("SPAN " + span + ", the next tick", m.why(0, 5, 1), 0);
    }
  }

  private static void capOfNine() {
    due.says("its CAP for that reader is reached");
    NoticeMarket m = Setup.market(100);
    Setup.house(m);
    for (int i = 1; i <= 9; i++) {
      m.cap(0, i, 1000);
      due.is("one less than CAP " + i, m.come(5, 0), 1);
      m.tick(1);
      due.is("CAP " + i, m.why(0, 5, 0), 3);
      due.is("none is sold", m.come(5, 0), 0);
    }
    due.is("another reader's is not", m.come(6, 0), 1);
    m.tick(1);
    m.refund(4);
    due.is("8 are left", m.why(0, 5, 0), 0);
    due.is("the ninth", m.come(5, 0), 1);
    m.tick(1);
    due.is("reached again", m.why(0, 5, 0), 3);
    m.cap(0, 1, 1);
    due.is("a lesser CAP of a lesser SPAN", m.why(0, 5, 0), 0);
  }

  private static void lessThanBidIsLeft() {
    due.says("of its budget of the DAY, or in all, less than BID is left");
    int[][] budgets = {{20, 20, 0}, {19, 20, 4}, {20, 19, 4}, {1000000, 20, 0}, {1000000, 19, 4}, {19, 1000000, 4}, {0, 0, 4}};
    for (int[] b : budgets) {
      NoticeMarket m = Setup.market(100);
      m.page(100);
      int c = Setup.bidder(m, 0, 10);
      m.come(0, 0);
      m.budget(c, b[0], b[1]);
      due.is("10 spent of " + b[0] + " and " + b[1], m.why(c, 0, 1), b[2]);
      due.is("sold", m.come(0, 1), b[2] == 0 ? 1 : 0);
    }
  }

  private static void bidAndNotPriceIsAskedFor() {
    due.says("less than BID is left");
    NoticeMarket m = Setup.market(50);
    m.campaign(0, 0, 10);
    m.budget(0, 15, 1000);
    m.come(0, 0);
    m.tick(1);
    due.is("10 are left", m.why(0, 0, 0), 0);
    m.budget(0, 14, 1000);
    due.is("9 are left, though the price is 5", m.why(0, 0, 0), 4);
    m.budget(0, 1000, 14);
    due.is("9 are left in all", m.why(0, 0, 0), 4);
  }

  private static void keptAsideIsNotLeft() {
    due.says("LEFT is the budget less what was SPENT and what is KEPT ASIDE");
    NoticeMarket m = Setup.market(100);
    m.campaign(1, 0, 10);
    m.budget(0, 29, 29);
    m.pace(0, 5);
    m.come(0, 0);
    m.press(0);
    m.tick(1);
    due.is("10 spent", m.why(0, 0, 0), 0);
    m.come(0, 0);
    m.tick(1);
    due.is("10 spent, 10 kept aside", m.why(0, 0, 0), 4);
    due.is("left of the DAY", m.told(0, 7), 9);
    due.is("left in all", m.told(0, 8), 9);
    m.tick(4);
    due.is("the last tick of WAIT", m.why(0, 0, 0), 4);
    m.tick(1);
    due.is("free again", m.why(0, 0, 0), 0);
    due.is("left of the DAY then", m.told(0, 7), 19);
    due.is("left in all then", m.told(0, 8), 19);
  }

  private static void leftInAllOverDays() {
    due.says("its budget of the DAY, or in all");
    NoticeMarket m = Setup.market(100);
    m.campaign(1, 0, 10);
    m.budget(0, 10, 29);
    m.pace(0, 200);
    m.tick(99);
    m.come(0, 0);
    due.is("the DAY's is used up", m.why(0, 1, 0), 4);
    m.tick(1);
    due.is("the next DAY's", m.why(0, 1, 0), 0);
    m.come(0, 0);
    m.tick(100);
    due.is("9 are left in all, 20 are kept aside", m.why(0, 1, 0), 4);
    due.is("all of the DAY's", m.told(0, 7), 10);
    m.refund(0);
    due.is("19 are left in all", m.why(0, 1, 0), 0);
  }

  private static void noBudgetIsAsked() {
    due.says("of PROMISED and HOUSE this is not asked");
    NoticeMarket m = Setup.market(100);
    m.campaign(10, 0, 1000);
    m.campaign(20, 0, 0);
    m.campaign(0, 0, 1);
    due.is("PROMISED", m.why(0, 0, 0), 0);
    due.is("HOUSE", m.why(1, 0, 0), 0);
    due.is("BID", m.why(2, 0, 0), 4);
    due.is("a budget of 999 for a BID of 1000", m.budget(0, 999, 999), 1);
    due.is("PROMISED still", m.why(0, 0, 0), 0);
  }

  private static void drawNotBelowThrottle() {
    due.says("5 its THROTTLE: DRAW is not below it");
    int[][] drawWhy = {{899, 0}, {900, 5}, {901, 5}, {999, 5}, {0, 0}};
    for (int[] dw : drawWhy) {
      int tick = Setup.tickOfDraw(dw[0], 0, 11);
      int reader = Setup.readerOfDraw(dw[0], 0, tick);
      NoticeMarket m = throttledTo900();
      Setup.tickTo(m, tick);
      due.is("draw", m.draw(0, reader), dw[0]);
      due.is("THROTTLE 900, DRAW " + dw[0], m.why(0, reader, 0), dw[1]);
      due.is("sold", m.come(reader, 0), dw[1] == 0 ? 1 : 0);
    }
  }

  private static NoticeMarket throttledTo900() {
    NoticeMarket m = Setup.market(100);
    m.campaign(0, 0, 10);
    m.budget(0, 50, 1000000);
    m.pace(10, 50);
    m.come(0, 0);
    m.tick(10);
    m.pace(0, 50);
    due.is("throttle", m.told(0, 5), 900);
    return m;
  }

  private static void leastThrottleLetsDrawZero() {
    due.says("DRAW is not below it");
    NoticeMarket m = Setup.market(100);
    m.campaign(0, 0, 1);
    m.budget(0, 1, 100);
    m.come(0, 0);
    m.budget(0, 0, 100);
    m.tick(9);
    for (int tick = 10; tick < 100; tick++) {
      m.pace(tick, 50);
      m.tick(1);
    }
    due.is("throttle", m.told(0, 5), 1);
    m.pace(0, 50);
    m.budget(0, 1, 100);
    int[][] drawWhy = {{0, 0}, {1, 5}};
    int tick = 100;
    for (int[] dw : drawWhy) {
      tick = Setup.tickOfDraw(dw[0], 0, tick);
      Setup.tickTo(m, tick);
      due.is("THROTTLE 1, DRAW " + dw[0], m.why(0, Setup.readerOfDraw(dw[0], 0, tick), 0), dw[1]);
    }
  }

  private static void apartOnThatPageAtThisTick() {
    due.says("6 it is APART from one that was shown on that page at this TICK ahead (to whomever)");
    NoticeMarket m = Setup.market(100);
    m.page(100);
    Setup.houses(m, 2);
    m.apart(0, 1, 1);
    due.is("nothing was shown", m.why(1, 0, 0), 0);
    m.come(0, 0);
    due.is("to the same reader", m.why(1, 0, 0), 6);
    due.is("to another one", m.why(1, 99, 0), 6);
    due.is("on another page", m.why(1, 0, 1), 0);
    due.is("none is sold", m.come(99, 0), 0);
    m.tick(1);
    due.is("at the next tick", m.why(1, 0, 0), 0);
    m.tick(99);
    m.come(0, 1);
    due.is("on page 1 now", m.why(1, 0, 1), 6);
    due.is("not on page 0", m.why(1, 0, 0), 0);
  }

  private static void itself() {
    due.says("7 it was itself");
    NoticeMarket m = Setup.market(100, 100);
    m.page(100);
    Setup.houses(m, 40);
    for (int c = 0; c < 40; c++) if (c != 39 && c != 31) m.stop(c, 1);
    due.is("31 and 39 are shown", m.come(0, 0), 2);
    for (int c = 0; c < 40; c++) m.stop(c, 0);
    for (int c = 0; c < 40; c++) due.is("why " + c, m.why(c, 1, 0), c == 31 || c == 39 ? 7 : 0);
    due.is("on another page", m.why(39, 0, 1), 0);
    m.tick(1);
    due.is("at the next tick", m.why(39, 0, 0), 0);
  }

  private static void takenBackHinderNothing() {
    due.says("SALES that are taken back hinder nothing");
    NoticeMarket m = Setup.market(100);
    m.campaign(0, 0, 10);
    m.budget(0, 10, 10);
    Setup.house(m);
    m.apart(0, 1, 1);
    m.cap(0, 1, 1000);
    m.come(4, 0);
    due.is("cap", m.why(0, 4, 0), 3);
    due.is("budget", m.why(0, 5, 0), 4);
    due.is("apart", m.why(1, 4, 0), 6);
    m.refund(0);
    due.is("no cap", m.why(0, 4, 0), 0);
    due.is("budget, and not itself", m.why(0, 5, 0), 0);
    due.is("not apart", m.why(1, 4, 0), 0);
    due.is("sold again", m.come(4, 0), 1);
    due.is("itself anew", m.why(0, 4, 0), 3);
    due.is("the first is back already", m.refund(0), NOT);
    due.is("the second hinders still", m.why(1, 4, 0), 6);
  }

  private static void drawWrapsAround() {
    due.says("as an int; h ^ (h >>> 7), times 668265263; the upper 16 bits of that, modulo 1000");
    NoticeMarket m = new NoticeMarket();
    Setup.houses(m, 40);
    due.is("all 0", m.draw(0, 0), 0);
    int[] ticks = {0, 1, 99, 5000, 10000};
    for (int tick : ticks) {
      Setup.tickTo(m, tick);
      for (int reader = 0; reader < 100; reader += 9) {
        for (int c = 0; c < 40; c += 13) {
          due.is("draw " + c + " " + reader + " at " + tick, m.draw(c, reader), Setup.drawn(tick, reader, c));
        }
      }
    }
    due.is("the greatest h there is", m.draw(39, 99), 70);
  }

  private static void givingsOfNone() {
    due.says("GIVINGS are campaigns that MAY be shown given to its PLACES, to each one at most");
    NoticeMarket m = Setup.market(100, 100);
    due.is("no campaigns: best", m.best(0, 0), 0);
    due.is("no campaigns: give", m.give(0, 0, 0), NOT);
    due.is("no campaigns: come", m.come(0, 0), 0);
    Setup.houses(m, 3);
    for (int c = 0; c < 3; c++) m.stop(c, 1);
    due.is("none that may: best", m.best(0, 0), 0);
    due.is("none that may: give", m.give(0, 0, 1), NOT);
    due.is("none that may: come", m.come(0, 0), 0);
    for (int c = 0; c < 3; c++) m.stop(c, 0);
    due.is("more campaigns than places", m.come(0, 0), 2);
  }

  private static void noCampaignTwice() {
    due.says("no campaign twice");
    NoticeMarket m = Setup.market(100, 100, 100, 100);
    Setup.bidder(m, 0, 1000);
    due.is("best", m.best(0, 0), 1000000000L);
    due.is("one place", m.come(0, 0), 1);
    due.is("the first one", m.sale(0, 3), 0);
  }

  private static void noneApart() {
    due.says("none APART from another one of them");
    NoticeMarket m = Setup.market(100, 100, 100, 100);
    for (int c = 0; c < 6; c++) Setup.bidder(m, 0, 10 + c);
    for (int a = 0; a < 6; a++) for (int b = 0; b < a; b++) m.apart(a, b, 1);
    due.is("all are apart: the greatest alone", m.best(0, 0), 15000000L);
    due.is("at the first place", m.give(0, 0, 0), 5);
    m.apart(0, 1, 0);
    due.is("two that are not", m.best(0, 0), 21000000L);
    due.is("one sale each", m.come(0, 0), 2);
  }

  private static void greatestSum() {
    due.says("The BEST is the one with the greatest sum of WORTHS");
    NoticeMarket m = Setup.market(100, 80, 60, 40);
    int[] bids = {5, 40, 20, 30, 10, 25, 35};
    for (int bid : bids) Setup.bidder(m, 0, bid);
    int[] want = {1, 6, 3, 5};
    for (int place = 0; place < 4; place++) due.is("give " + place, m.give(0, 0, place), want[place]);
    due.is("best", m.best(0, 0), 10000L * (4000 + 2800 + 1800 + 1000));
    m.apart(1, 6, 1);
    int[] apart = {1, 3, 5, 2};
    for (int place = 0; place < 4; place++) due.is("1 and 6 apart, " + place, m.give(0, 0, place), apart[place]);
    m.apart(1, 3, 1);
    int[] more = {6, 3, 5, 2};
    for (int place = 0; place < 4; place++) due.is("1 and 3 apart, too, " + place, m.give(0, 0, place), more[place]);
  }

  private static void allCampaignsAtOnce() {
    due.says("CAMPAIGNS 0 .. 39");
    NoticeMarket m = Setup.market(100, 100, 100, 100);
    for (int c = 0; c < 40; c++) Setup.bidder(m, 0, 1 + c * 7 % 40);
    due.is("40 + 39 + 38 + 37", m.best(0, 0), 154000000L);
    int[] want = {11, 17, 28, 34};
    for (int place = 0; place < 4; place++) due.is("give " + place, m.give(0, 0, place), want[place]);
    due.is("come", m.come(0, 0), 4);
    due.is("36 + 35 + 34 + 33", m.best(0, 0), 138000000L);
    for (int i = 0; i < 9; i++) due.is("come again", m.come(i, 0), 4);
    due.is("all were shown", m.come(9, 0), 0);
    due.is("none is left", m.best(0, 0), 0);
  }

  private static void mostPlacesFilled() {
    due.says("of several the one with the most PLACES filled");
    NoticeMarket m = Setup.market(100, 100, 100);
    Setup.bidder(m, 0, 3);
    for (int c = 0; c < 3; c++) Setup.bidder(m, 0, 1);
    for (int c = 1; c < 4; c++) m.apart(0, c, 1);
    due.is("3 and 1 + 1 + 1", m.best(0, 0), 3000000L);
    due.is("three places", m.come(0, 0), 3);
    NoticeMarket k = Setup.market(100, 100, 100);
    Setup.bidder(k, 0, 3);
    Setup.houses(k, 2);
    due.is("houses fill what is left", k.come(0, 0), 3);
    due.is("house at place 1", k.sale(1, 4), 1);
    due.is("house at place 2", k.sale(2, 4), 2);
  }

  private static void lesserFirst() {
    due.says("of several the one that comes first: place 0's campaign the lesser, then place 1's, ..");
    NoticeMarket m = Setup.market(100, 100, 100);
    for (int c = 0; c < 5; c++) Setup.bidder(m, 0, 8);
    for (int place = 0; place < 3; place++) due.is("give " + place, m.give(0, 0, place), place);
    m.apart(0, 1, 1);
    int[] without1 = {0, 2, 3};
    for (int place = 0; place < 3; place++) due.is("0 and 1 apart, " + place, m.give(0, 0, place), without1[place]);
    m.apart(0, 2, 1);
    m.apart(0, 3, 1);
    int[] without0 = {1, 2, 3};
    for (int place = 0; place < 3; place++) due.is("0 with 4 alone, " + place, m.give(0, 0, place), without0[place]);
    NoticeMarket k = Setup.market(10, 100, 10);
    Setup.houses(k, 1);
    Setup.bidder(k, 0, 8);
    Setup.houses(k, 1);
    int[] around = {0, 1, 2};
    for (int place = 0; place < 3; place++) due.is("houses around, " + place, k.give(0, 0, place), around[place]);
  }

  /** 3 goes with 4 alone and 5 with 1 alone: the same sum, and the first of the two places is asked first. */
  private static void lesserFirstAtEachPlace() {
    due.says("place 0's campaign the lesser, then place 1's");
    int[][] pages = {{50, 25}, {100, 50, 25}, {100, 100, 50, 25}};
    for (int[] sizes : pages) {
      NoticeMarket m = Setup.market(sizes);
      int[] bids = {1000, 10, 1000, 20, 10, 20};
      for (int bid : bids) Setup.bidder(m, 0, bid);
      int[][] aparts = {{3, 1}, {5, 4}, {3, 5}};
      for (int[] a : aparts) m.apart(a[0], a[1], 1);
      int ahead = sizes.length - 2;
      m.stop(0, ahead >= 1 ? 0 : 1);
      m.stop(2, ahead >= 2 ? 0 : 1);
      due.is("3 at place " + ahead, m.give(0, 0, ahead), 3);
      due.is("4 behind it", m.give(0, 0, ahead + 1), 4);
    }
  }

  private static void noneIsGreaterThanAll() {
    due.says("none counts as greater than all");
    NoticeMarket m = Setup.market(50, 50, 50, 50);
    Setup.houses(m, 40);
    for (int c = 0; c < 38; c++) m.stop(c, 1);
    int[] want = {38, 39, NOT, NOT};
    for (int place = 0; place < 4; place++) due.is("give " + place, m.give(0, 0, place), want[place]);
    NoticeMarket k = Setup.market(50, 100, 50);
    Setup.bidder(k, 0, 10);
    Setup.house(k);
    int[] then = {1, 0, NOT};
    for (int place = 0; place < 3; place++) due.is("house ahead, " + place, k.give(0, 0, place), then[place]);
  }

  private static void salesInOrderOfPlaces() {
    due.says("Each PLACE that the BEST gives is a SALE, in order of PLACES");
    NoticeMarket m = Setup.market(10, 100, 20, 50);
    Setup.bidder(m, 0, 10);
    Setup.bidder(m, 0, 30);
    due.is("two places of four", m.come(0, 0), 2);
    int[][] want = {{1, 1}, {3, 0}};
    for (int i = 0; i < 2; i++) {
      due.is("PLACE of sale " + i, m.sale(i, 3), want[i][0]);
      due.is("campaign of sale " + i, m.sale(i, 4), want[i][1]);
    }
  }
}
