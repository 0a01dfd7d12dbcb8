/** The document's terms, sections 3 and 4: a test for each sentence that names an edge. */
public final class EdgesOfPricesAndPaceTest {
  private static final Due due = new Due("EdgesOfPricesAndPaceTest");
  private static final int BAD = -1, NOT = -2;

  public static void main(String[] args) {
    firstIsOneAtLeast();
    lossIsZeroAtLeast();
    lossWithoutThatCampaign();
    lossLessTheRest();
    lossOfTheGreatestRest();
    lossAtMostFirst();
    lossByPress();
    promisedAndHousePayZero();
    spentAtOnce();
    waitAtFirst();
    waitEdges();
    waitAsItWas();
    spentIfPressedByThen();
    waitAtTheLastTick();
    freeOfEarlierDay();
    countForTheDayOfTheSale();
    paceNeverAtFirst();
    multiplesOfPace();
    paceOfAHundred();
    freeAheadOfPacing();
    onlyBidsArePaced();
    throttleStaysAtTickZero();
    moreThanDue();
    lessThanDue();
    justAsDue();
    nineTenths();
    oneAtLeast();
    upFromTheLeast();
    thousandAtMost();
    keptAsideIsPaced();
    paceOfNoBudget();
    behindNeedsAPromise();
    behindByTheTicksGoneBy();
    behindRestAway();
    behindAtTheDaysEnd();
    behindOfOneTick();
    behindBeyondTheDay();
    behindWithoutTakenBack();
    behindOfLaterDays();
    due.end();
  }

  /** The price of a campaign that comes alone to a page of one place. */
  private static int priceAlone(int bid, int size) {
    NoticeMarket m = Setup.market(size);
    Setup.bidder(m, 0, bid);
    m.come(0, 0);
    return m.sale(0, 5);
  }

  private static void firstIsOneAtLeast() {
    due.says("0 FIRST: BID times SIZE, divided by 100, 1 at least");
    int[][] wants = {{1, 1, 1}, {1, 99, 1}, {1, 100, 1}, {99, 1, 1}, {100, 1, 1}, {199, 1, 1}, {200, 1, 2}, {3, 50, 1},
        {1000, 1, 10}, {999, 100, 999}, {1000, 99, 990}, {1000, 100, 1000}};
    for (int[] w : wants) due.is("price of " + w[0] + " at " + w[1], priceAlone(w[0], w[1]), w[2]);
  }

  /** The prices by LOSS of campaigns with these bids on a page of these sizes, in order of places. */
  private static int[] lossPrices(int[] bids, int... sizes) {
    NoticeMarket m = Setup.market(sizes);
    m.rule(1);
    for (int bid : bids) Setup.bidder(m, 0, bid);
    int[] prices = new int[m.come(0, 0)];
    for (int i = 0; i < prices.length; i++) prices[i] = m.sale(i, 5);
    return prices;
  }

  private static void are(String what, int[] got, int... want) {
    due.is(what + ": how many", got.length, want.length);
    for (int i = 0; i < Math.min(got.length, want.length); i++) due.is(what + ": " + i, got[i], want[i]);
  }

  private static void lossIsZeroAtLeast() {
    due.says("1 LOSS: the greatest sum of WORTHS of a GIVING without that campaign, less what the others have in the BEST");
    are("alone", lossPrices(new int[] {1000}, 100), 0);
    are("as many places as campaigns", lossPrices(new int[] {1000, 1000}, 100, 100), 0, 0);
    are("more places than campaigns", lossPrices(new int[] {50, 40}, 100, 100, 100), 0, 0);
  }

  private static void lossWithoutThatCampaign() {
    due.says("of a GIVING without that campaign");
    are("the next one", lossPrices(new int[] {10, 4}, 100), 4);
    are("a lesser place is lost", lossPrices(new int[] {10, 4}, 100, 25), 3, 0);
    are("three for two", lossPrices(new int[] {10, 8, 4}, 100, 50), 6, 2);
    are("all the same", lossPrices(new int[] {10, 10, 10, 10, 10}, 100, 100, 100, 100), 10, 10, 10, 10);
  }

  private static void lossLessTheRest() {
    due.says("divided by 1000000 (the rest away), at least 0");
    are("0.99", lossPrices(new int[] {10, 1}, 99), 0);
    are("1.00", lossPrices(new int[] {10, 1}, 100), 1);
    are("1.98", lossPrices(new int[] {10, 2}, 99), 1);
    are("9.90", lossPrices(new int[] {1000, 990}, 1), 9);
    are("0.01", lossPrices(new int[] {1, 1}, 1), 0);
  }

  /** 10000 * 481 * 77 * 27 / 200 is 50 less than fifty millions. */
  private static void lossOfTheGreatestRest() {
    due.says("divided by 1000000 (the rest away)");
    NoticeMarket m = new NoticeMarket();
    for (int page = 0; page < 8; page++) m.page(77);
    Setup.bidder(m, 1, 481);
    for (int i = 0; i < 180; i++) {
      m.come(0, i % 8);
      if (i < 26) m.press(i);
      if (i % 8 == 7) m.tick(1);
    }
    m.tick(1);
    due.is("its worth", m.best(0, 0), 49999950);
    Setup.bidder(m, 0, 1000);
    m.rule(1);
    m.come(0, 0);
    due.is("the other one is shown", m.sale(180, 4), 1);
    due.is("49.99995", m.sale(180, 5), 49);
  }

  private static void lossAtMostFirst() {
    due.says("at most the price by FIRST");
    are("one of the same BID", lossPrices(new int[] {1000, 1000}, 100), 1000);
    are("the same with a rest", lossPrices(new int[] {999, 999}, 99), 989);
    are("a place of its own", lossPrices(new int[] {7, 7, 7}, 50, 50), 3, 3);
  }

  private static void lossByPress() {
    due.says("One by press: its PRICE is KEPT ASIDE");
    NoticeMarket m = Setup.market(100);
    m.rule(1);
    Setup.bidder(m, 1, 500);
    Setup.bidder(m, 0, 20);
    due.is("500 / 20", m.best(0, 0), 25000000);
    m.come(0, 0);
    due.is("by press", m.sale(0, 4), 0);
    due.is("the other's 20", m.told(0, 2), 20);
    m.stop(1, 1);
    m.tick(1);
    m.come(0, 0);
    due.is("a price of 0", m.sale(1, 5), 0);
    due.is("it waits, too", m.sale(1, 6), 1);
    due.is("nothing more aside", m.told(0, 2), 20);
    due.is("pressed", m.press(1), 1);
    due.is("nothing is spent", m.told(0, 0), 0);
  }

  private static void promisedAndHousePayZero() {
    due.says("PROMISED and HOUSE ones pay 0");
    for (int rule = 0; rule < 2; rule++) {
      NoticeMarket m = Setup.market(100, 100);
      m.rule(rule);
      for (int c = 0; c < 4; c++) m.campaign(c < 3 ? 10 : 20, 0, c < 3 ? 1000 : 0);
      m.stop(2, rule == 0 ? 1 : 0);
      m.come(0, 0);
      due.is("PROMISED", m.sale(0, 5), 0);
      due.is("another", m.sale(1, 5), 0);
      for (int c = 0; c < 3; c++) m.stop(c, 1);
      m.tick(1);
      m.come(0, 0);
      due.is("HOUSE", m.sale(2, 4), 3);
      due.is("its price", m.sale(2, 5), 0);
      due.is("all that was spent", m.count(5), 0);
    }
  }

  private static void spentAtOnce() {
    due.says("A sale by showing: its PRICE is SPENT at once");
    NoticeMarket m = Setup.market(100);
    Setup.bidder(m, 0, 1000);
    m.come(0, 0);
    due.is("spent", m.told(0, 0), 1000);
    due.is("nothing aside", m.told(0, 2), 0);
    due.is("state", m.sale(0, 6), 0);
    Setup.tickTo(m, 300);
    due.is("spent it stays", m.told(0, 0), 1000);
  }

  /** A market with one sale by press of 10 coins at TICK 0, while WAIT is this. */
  private static NoticeMarket waiting(int wait) {
    NoticeMarket m = Setup.market(100);
    Setup.bidder(m, 1, 10);
    m.pace(0, wait);
    m.come(0, 0);
    return m;
  }

  private static void isFreeAfter(NoticeMarket m, int lastTick) {
    Setup.tickTo(m, lastTick);
    due.is("kept aside at " + lastTick, m.told(0, 2), 10);
    due.is("it waits at " + lastTick, m.sale(0, 6), 1);
    m.tick(1);
    due.is("free after " + lastTick, m.told(0, 2), 0);
    due.is("shown after " + lastTick, m.sale(0, 6), 0);
    due.is("not spent after " + lastTick, m.told(0, 0), 0);
    due.is("too late after " + lastTick, m.press(0), NOT);
  }

  private static void waitAtFirst() {
    due.says("WAIT (1 .. 200; 50 at first; as it was when it was sold)");
    NoticeMarket m = Setup.market(100);
    Setup.bidder(m, 1, 10);
    m.come(0, 0);
    isFreeAfter(m, 50);
  }

  private static void waitEdges() {
    due.says("up to the SALE's TICK and WAIT (1 .. 200");
    int[] waits = {1, 2, 99, 100, 199, 200};
    for (int wait : waits) isFreeAfter(waiting(wait), wait);
    NoticeMarket m = waiting(50);
    due.is("WAIT 0", m.pace(0, 0), BAD);
    due.is("WAIT 201", m.pace(0, 201), BAD);
  }

  private static void waitAsItWas() {
    due.says("as it was when it was sold");
    NoticeMarket less = waiting(5);
    less.pace(0, 1);
    isFreeAfter(less, 5);
    NoticeMarket more = waiting(5);
    more.pace(0, 200);
    isFreeAfter(more, 5);
    NoticeMarket two = waiting(60);
    two.pace(0, 5);
    two.tick(1);
    two.come(0, 0);
    two.tick(6);
    due.is("the later one is free", two.sale(1, 6), 0);
    due.is("the earlier one waits", two.sale(0, 6), 1);
    isFreeAfter(two, 60);
  }

  private static void spentIfPressedByThen() {
    due.says("if the press comes by then it is SPENT, else it is free again, as soon as TICK is more");
    for (int tick = 0; tick <= 6; tick++) {
      NoticeMarket m = waiting(5);
      Setup.tickTo(m, tick);
      due.is("press at " + tick, m.press(0), tick <= 5 ? 1 : NOT);
      due.is("spent at " + tick, m.told(0, 0), tick <= 5 ? 10 : 0);
      due.is("aside at " + tick, m.told(0, 2), 0);
      due.is("used of the DAY at " + tick, m.told(0, 1), tick <= 5 ? 10 : 0);
      Setup.tickTo(m, 20);
      due.is("spent it stays", m.told(0, 0), tick <= 5 ? 10 : 0);
      due.is("state", m.sale(0, 6), tick <= 5 ? 2 : 0);
    }
  }

  /** Sales whose time ends at TICK 9999, 10000 and 10001: only the first can become free. */
  private static void waitAtTheLastTick() {
    due.says("else it is free again, as soon as TICK is more");
    NoticeMarket m = Setup.market(100);
    Setup.bidder(m, 1, 10);
    for (int tick = 9949; tick <= 9951; tick++) {
      Setup.tickTo(m, tick);
      m.come(0, 0);
    }
    Setup.tickTo(m, 9999);
    for (int sale = 0; sale < 3; sale++) due.is("sale " + sale + " waits", m.sale(sale, 6), 1);
    due.is("all three are kept aside", m.told(0, 2), 30);
    due.is("the last TICK", m.tick(1), 10000);
    due.is("TICK is more", m.sale(0, 6), 0);
    due.is("too late", m.press(0), NOT);
    due.is("two are kept aside", m.told(0, 2), 20);
    for (int sale = 1; sale < 3; sale++) due.is("TICK is not more for sale " + sale, m.press(sale), 1);
    due.is("nothing is kept aside", m.told(0, 2), 0);
    due.is("two are spent", m.told(0, 0), 20);
  }

  private static void freeOfEarlierDay() {
    due.says("SPENT and KEPT ASIDE count for the DAY of the SALE");
    NoticeMarket m = Setup.market(100);
    m.campaign(1, 0, 10);
    m.budget(0, 25, 100);
    m.pace(0, 1);
    m.tick(99);
    m.come(0, 0);
    m.tick(1);
    m.come(0, 0);
    due.is("one of this DAY", m.told(0, 1), 10);
    due.is("two in all", m.told(0, 2), 20);
    m.tick(1);
    due.is("the earlier DAY's is free", m.told(0, 2), 10);
    due.is("this DAY's is not less", m.told(0, 1), 10);
    m.tick(1);
    due.is("this DAY's is free", m.told(0, 1), 0);
    due.is("left of the DAY", m.told(0, 7), 25);
    due.is("left in all", m.told(0, 8), 100);
  }

  private static void countForTheDayOfTheSale() {
    due.says("count for the DAY of the SALE");
    NoticeMarket m = Setup.market(100);
    m.campaign(1, 0, 10);
    m.budget(0, 15, 100);
    m.tick(99);
    m.come(0, 0);
    due.is("left of DAY 0", m.told(0, 7), 5);
    m.tick(1);
    due.is("left of DAY 1", m.told(0, 7), 15);
    m.press(0);
    due.is("pressed on DAY 1", m.told(0, 0), 10);
    due.is("left of DAY 1 still", m.told(0, 7), 15);
    due.is("used of DAY 1", m.told(0, 1), 0);
    due.is("left in all", m.told(0, 8), 90);
    m.refund(0);
    due.is("taken back on DAY 1", m.told(0, 1), 0);
    due.is("not more than the budget", m.told(0, 7), 15);
    due.is("all is left", m.told(0, 8), 100);
  }

  /** A market whose one campaign, by showing, has spent this much at TICK 0 of this budget for the DAY. */
  private static NoticeMarket used(int coins, int budget, int pace) {
    NoticeMarket m = Setup.market(100);
    Setup.bidder(m, 0, coins);
    m.come(0, 0);
    m.budget(0, budget, 1000000);
    m.pace(pace, 50);
    return m;
  }

  private static void throttleAt(NoticeMarket m, int tick, int want) {
    Setup.tickTo(m, tick);
    due.is("throttle at " + tick, m.told(0, 5), want);
  }

  private static void paceNeverAtFirst() {
    due.says("every n ticks (told: 10 .. 100; 0: never, at first)");
    NoticeMarket m = Setup.market(100);
    Setup.bidder(m, 0, 10);
    m.come(0, 0);
    m.budget(0, 0, 0);
    throttleAt(m, 99, 1000);
    NoticeMarket told = used(10, 0, 10);
    told.pace(0, 50);
    throttleAt(told, 99, 1000);
    int[] wrong = {-10, -1, 1, 9, 101, 200};
    for (int n : wrong) due.is("pace " + n, m.pace(n, 50), BAD);
  }

  private static void multiplesOfPace() {
    due.says("when TICK becomes a multiple of n");
    NoticeMarket ten = used(10, 0, 10);
    throttleAt(ten, 9, 1000);
    throttleAt(ten, 10, 900);
    throttleAt(ten, 19, 900);
    throttleAt(ten, 20, 810);
    NoticeMarket late = used(10, 0, 0);
    Setup.tickTo(late, 35);
    late.pace(40, 50);
    throttleAt(late, 39, 1000);
    throttleAt(late, 40, 900);
    late.pace(40, 50);
    throttleAt(late, 79, 900);
    throttleAt(late, 80, 810);
    NoticeMarket odd = used(10, 0, 99);
    throttleAt(odd, 98, 1000);
    throttleAt(odd, 99, 900);
    NoticeMarket inOne = used(10, 0, 33);
    inOne.tick(99);
    due.is("three multiples in one call", inOne.told(0, 5), 729);
  }

  private static void paceOfAHundred() {
    due.says("if t is 0 it stays");
    NoticeMarket m = used(10, 0, 100);
    for (int tick = 100; tick <= 400; tick += 100) {
      throttleAt(m, tick - 1, 1000);
      m.budget(0, 10, 1000000);
      m.come(0, 0);
      m.budget(0, 0, 0);
      throttleAt(m, tick, 1000);
    }
  }

  private static void freeAheadOfPacing() {
    due.says("SALES that waited too long are free ahead of that");
    int[][] waitThrottle = {{9, 1000}, {10, 900}, {11, 900}};
    for (int[] wt : waitThrottle) {
      NoticeMarket m = Setup.market(100);
      Setup.bidder(m, 1, 10);
      m.pace(10, wt[0]);
      m.come(0, 0);
      m.budget(0, 10, 1000);
      throttleAt(m, 10, wt[1]);
    }
  }

  private static void onlyBidsArePaced() {
    due.says("for each campaign of SORT BID the THROTTLE becomes");
    NoticeMarket m = Setup.market(100, 100, 100, 100);
    Setup.bidder(m, 0, 10);
    Setup.bidder(m, 1, 10);
    m.campaign(10, 0, 10);
    m.campaign(20, 0, 0);
    due.is("all are shown", m.come(0, 0), 4);
    for (int c = 0; c < 4; c++) m.budget(c, 1, 1);
    m.pace(10, 50);
    m.tick(10);
    int[] want = {900, 900, 1000, 1000};
    for (int c = 0; c < 4; c++) due.is("throttle of " + c, m.told(c, 5), want[c]);
  }

  private static void throttleStaysAtTickZero() {
    due.says("t the tick within the DAY (0 .. 99), b the budget of the DAY: if t is 0 it stays");
    NoticeMarket m = used(10, 0, 50);
    throttleAt(m, 50, 900);
    m.budget(0, 1000, 1000000);
    throttleAt(m, 100, 900);
    throttleAt(m, 149, 900);
    throttleAt(m, 150, 991);
    NoticeMarket one = usedAt900(1, 1000);
    one.pace(67, 50);
    throttleAt(one, 67, 991);
    one.budget(0, 0, 0);
    throttleAt(one, 134, 991);
    one.budget(0, 1, 0);
    throttleAt(one, 200, 991);
    throttleAt(one, 201, 1000);
    NoticeMarket k = used(10, 0, 33);
    throttleAt(k, 99, 729);
    k.budget(0, 1000, 1000000);
    throttleAt(k, 131, 729);
    throttleAt(k, 132, 802);
  }

  private static void moreThanDue() {
    due.says("if p times 100 is more than b times t, nine tenths of it");
    throttleAt(used(20, 199, 10), 10, 900);
    throttleAt(used(1, 1, 99), 99, 900);
    throttleAt(used(1000, 1010, 99), 99, 900);
    throttleAt(used(1, 0, 10), 10, 900);
  }

  /** From 900 at TICK 10 on, as a THROTTLE of 1000 can't be seen to rise. */
  private static NoticeMarket usedAt900(int coins, int budgetThen) {
    NoticeMarket m = used(coins, 0, 10);
    throttleAt(m, 10, 900);
    m.budget(0, budgetThen, 1000000);
    return m;
  }

  private static void lessThanDue() {
    due.says("if less, it times 11, divided by 10, and 1");
    throttleAt(usedAt900(20, 101), 20, 991);
    throttleAt(usedAt900(20, 99), 20, 810);
    throttleAt(usedAt900(1, 1000000), 20, 991);
  }

  private static void justAsDue() {
    due.says("else it stays");
    NoticeMarket m = usedAt900(20, 100);
    throttleAt(m, 20, 900);
    m.pace(0, 50);
    m.tick(1);
    m.budget(0, 80, 1000000);
    m.pace(25, 50);
    throttleAt(m, 25, 900);
    throttleAt(m, 49, 900);
    throttleAt(m, 50, 991);
  }

  private static void nineTenths() {
    due.says("nine tenths of it (the rest away), but 1 at least");
    NoticeMarket m = used(1, 0, 10);
    int[] want = {900, 810, 729, 656, 590, 531, 477, 429, 386};
    for (int i = 0; i < 9; i++) throttleAt(m, 10 * (i + 1), want[i]);
    throttleAt(m, 100, 386);
  }

  /** PACE told anew for each tick sets the THROTTLE at each. */
  private static void paceEachTick(NoticeMarket m, int from, int to) {
    for (int tick = from; tick <= to; tick++) {
      m.pace(tick, 50);
      m.tick(1);
    }
  }

  private static void oneAtLeast() {
    due.says("but 1 at least");
    NoticeMarket m = used(1, 0, 0);
    m.tick(9);
    int before = 1000;
    for (int tick = 10; before > 2; tick++) {
      paceEachTick(m, tick, tick);
      due.is("down at " + tick, m.told(0, 5), before * 9 / 10);
      before = before * 9 / 10;
    }
    for (int i = 0; i < 3; i++) {
      int tick = m.count(3) + 1;
      paceEachTick(m, tick, tick);
      due.is("the least", m.told(0, 5), 1);
    }
  }

  private static void upFromTheLeast() {
    due.says("it times 11, divided by 10, and 1, at most 1000");
    NoticeMarket m = used(1, 0, 0);
    m.tick(9);
    paceEachTick(m, 10, 70);
    due.is("the least", m.told(0, 5), 1);
    m.budget(0, 1000, 1000);
    int[] want = {2, 3, 4, 5, 6, 7, 8, 9, 10, 12, 14, 16, 18, 20, 23};
    for (int i = 0; i < want.length; i++) {
      paceEachTick(m, 71 + i, 71 + i);
      due.is("up " + i, m.told(0, 5), want[i]);
    }
  }

  private static void thousandAtMost() {
    due.says("at most 1000");
    NoticeMarket m = usedAt900(1, 1000);
    throttleAt(m, 20, 991);
    throttleAt(m, 30, 1000);
    throttleAt(m, 40, 1000);
  }

  private static void keptAsideIsPaced() {
    due.says("p being what was SPENT and is KEPT ASIDE of this DAY's SALES");
    NoticeMarket m = Setup.market(100, 100);
    Setup.bidder(m, 1, 10);
    m.pace(0, 200);
    m.tick(99);
    m.come(0, 0);
    m.tick(1);
    m.come(0, 0);
    m.press(1);
    m.tick(1);
    m.come(0, 0);
    m.budget(0, 200, 1000000);
    m.pace(10, 200);
    throttleAt(m, 110, 1000);
    m.budget(0, 199, 1000000);
    Setup.tickTo(m, 119);
    m.budget(0, 99, 1000000);
    throttleAt(m, 120, 900);
    m.budget(0, 66, 1000000);
    throttleAt(m, 130, 810);
    m.budget(0, 67, 1000000);
    m.pace(0, 200);
    m.tick(1);
    m.pace(44, 200);
    throttleAt(m, 132, 892);
  }

  private static void paceOfNoBudget() {
    due.says("b the budget of the DAY");
    NoticeMarket m = used(10, 0, 10);
    throttleAt(m, 90, 386);
    throttleAt(m, 110, 386);
    m.budget(0, 1, 0);
    throttleAt(m, 120, 425);
  }

  private static void behindNeedsAPromise() {
    due.says("BEHIND is a PROMISED campaign to which MANY was told");
    NoticeMarket m = Setup.market(100);
    m.campaign(10, 0, 5);
    m.campaign(0, 0, 5);
    m.campaign(20, 0, 0);
    due.is("NOT of BID", m.promise(1, 1, 0), NOT);
    due.is("NOT of HOUSE", m.promise(2, 1, 0), NOT);
    int[] ticks = {0, 99, 100, 10000};
    for (int tick : ticks) {
      Setup.tickTo(m, tick);
      for (int c = 0; c < 3; c++) due.is("behind " + c + " at " + tick, m.told(c, 6), 0);
    }
  }

  private static NoticeMarket promised(int tick, int many, int day) {
    NoticeMarket m = Setup.market(100);
    m.campaign(10, 0, 5);
    Setup.tickTo(m, tick);
    due.is("promise", m.promise(0, many, day), 1);
    return m;
  }

  private static void behindAt(NoticeMarket m, int tick, int want) {
    Setup.tickTo(m, tick);
    due.is("behind at " + tick, m.told(0, 6), want);
  }

  private static void behindByTheTicksGoneBy() {
    due.says("fewer than MANY times the ticks that have gone by since that was told");
    NoticeMarket m = promised(0, 2, 0);
    behindAt(m, 0, 0);
    behindAt(m, 49, 0);
    behindAt(m, 50, 1);
    m.come(0, 0);
    behindAt(m, 50, 0);
    behindAt(m, 99, 0);
    behindAt(m, 100, 1);
    NoticeMarket most = promised(0, 1000, 0);
    behindAt(most, 0, 0);
    behindAt(most, 1, 1);
    NoticeMarket later = promised(60, 4, 0);
    behindAt(later, 60, 0);
    behindAt(later, 69, 0);
    behindAt(later, 70, 1);
    later.promise(0, 4, 0);
    behindAt(later, 70, 0);
    behindAt(later, 77, 0);
    behindAt(later, 78, 1);
  }

  private static void behindRestAway() {
    due.says("divided (the rest away) by the ticks from then to the end of its DAY (its last tick and 1)");
    NoticeMarket m = promised(0, 3, 0);
    behindAt(m, 33, 0);
    behindAt(m, 34, 1);
    m.come(0, 0);
    behindAt(m, 66, 0);
    behindAt(m, 67, 1);
    m.come(0, 0);
    behindAt(m, 99, 0);
    behindAt(m, 100, 1);
    m.come(0, 0);
    behindAt(m, 100, 0);
    behindAt(m, 1000, 0);
  }

  private static void behindAtTheDaysEnd() {
    due.says("the ticks from then to the end of its DAY (its last tick and 1)");
    NoticeMarket one = promised(0, 1, 0);
    behindAt(one, 99, 0);
    behindAt(one, 100, 1);
    NoticeMarket hundred = promised(98, 2, 0);
    behindAt(hundred, 98, 0);
    behindAt(hundred, 99, 1);
    hundred.come(0, 0);
    behindAt(hundred, 99, 0);
    behindAt(hundred, 100, 1);
  }

  private static void behindOfOneTick() {
    due.says("the ticks from then to the end of its DAY");
    NoticeMarket m = promised(99, 1000, 0);
    behindAt(m, 99, 0);
    behindAt(m, 100, 1);
    NoticeMarket last = promised(10000, 1000, 100);
    behindAt(last, 10000, 0);
    NoticeMarket first = promised(9900, 1, 99);
    behindAt(first, 9999, 0);
    behindAt(first, 10000, 1);
  }

  private static void behindBeyondTheDay() {
    due.says("once TICK is beyond that DAY: fewer than MANY");
    NoticeMarket m = promised(0, 2, 0);
    m.come(0, 0);
    behindAt(m, 100, 1);
    behindAt(m, 350, 1);
    m.come(0, 0);
    behindAt(m, 350, 0);
    behindAt(m, 10000, 0);
  }

  private static void behindWithoutTakenBack() {
    due.says("if its showings that were not taken back are fewer");
    NoticeMarket m = promised(0, 2, 0);
    m.come(0, 0);
    behindAt(m, 50, 0);
    m.refund(0);
    behindAt(m, 50, 1);
    m.come(0, 0);
    behindAt(m, 50, 0);
    Setup.tickTo(m, 200);
    m.come(0, 0);
    behindAt(m, 200, 0);
    m.refund(2);
    behindAt(m, 200, 1);
  }

  private static void behindOfLaterDays() {
    due.says("MANY showings by the end of a DAY (told)");
    NoticeMarket m = promised(0, 2, 1);
    behindAt(m, 99, 0);
    behindAt(m, 100, 1);
    NoticeMarket far = promised(0, 1000, 100);
    behindAt(far, 10, 0);
    behindAt(far, 11, 1);
    NoticeMarket farthest = promised(0, 1000, Setup.MOST);
    behindAt(farthest, 10000, 0);
    NoticeMarket wraps = promised(0, 1000, Setup.MOST / 100);
    behindAt(wraps, 10000, 0);
  }
}
