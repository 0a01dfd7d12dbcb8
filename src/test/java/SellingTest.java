/** Promises 12 to 19: time, comings, what hinders, the best giving, prices, presses and refunds. */
public final class SellingTest {
  private static final Due due = new Due("SellingTest");
  private static final int BAD = -1, NOT = -2, FULL = -3;
  private static final int LEAST = Integer.MIN_VALUE, MOST = Integer.MAX_VALUE;

  public static void main(String[] args) {
    promise12Tick();
    promise13Come();
    promise13Full();
    promise13LossPrices();
    promise13LossAtMostFirst();
    promise14Why();
    promise14Throttle();
    promise14TakenBack();
    promise15Best();
    promise15ByPress();
    promise16Ties();
    promise16Apart();
    promise16Wrong();
    promise17Sale();
    promise18Press();
    promise18ByShowing();
    promise19Refund();
    promise19RefundOfEarlierDays();
    due.end();
  }

  private static void promise12Tick() {
    NoticeMarket m = new NoticeMarket();
    int[] wrong = {0, -1, 101, LEAST, MOST};
    for (int n : wrong) due.is("tick(" + n + ")", m.tick(n), BAD);
    due.is("one", m.tick(1), 1);
    due.is("a hundred", m.tick(100), 101);
    for (int i = 2; i <= 99; i++) due.is("tick on", m.tick(100), 100 * i + 1);
    due.is("beyond the last", m.tick(100), BAD);
    due.is("unchanged", m.count(3), 9901);
    due.is("to the last", m.tick(99), 10000);
    due.is("no more", m.tick(1), BAD);
    due.is("unchanged", m.count(3), 10000);
    ticksGoOneByOne();
  }

  private static void ticksGoOneByOne() {
    NoticeMarket m = new NoticeMarket();
    m.page(100);
    Setup.bidder(m, 1, 100);
    m.budget(0, 100, 1000);
    m.pace(10, 25);
    m.tick(1);
    m.come(0, 0);
    m.tick(99);
    due.is("paced down at 10 and 20, up from 30 on, free at 27", m.told(0, 5), 1000);
    NoticeMarket k = new NoticeMarket();
    k.page(100);
    Setup.bidder(k, 1, 100);
    k.budget(0, 100, 1000);
    k.pace(10, 9);
    k.come(0, 0);
    k.tick(10);
    due.is("free ahead of the pacing", k.told(0, 5), 1000);
    due.is("it is free", k.told(0, 2), 0);
  }

  private static void promise13Come() {
    NoticeMarket m = new NoticeMarket();
    due.is("no page", m.come(0, 0), BAD);
    m.page((100 * 128 + 40) * 128 + 7);
    due.is("no campaigns", m.come(0, 0), 0);
    int[][] wrong = {{-1, 0}, {100, 0}, {0, -1}, {0, 1}, {LEAST, 0}, {0, MOST}};
    for (int[] w : wrong) due.is("come " + w[0] + " " + w[1], m.come(w[0], w[1]), BAD);
    Setup.bidder(m, 0, 10);
    Setup.bidder(m, 0, 33);
    m.campaign(20, 0, 0);
    due.is("three sales", m.come(5, 0), 3);
    int[][] sales = {{1, 33}, {0, 4}, {2, 0}};
    for (int i = 0; i < 3; i++) {
      due.is("place of " + i, m.sale(i, 3), i);
      due.is("campaign of " + i, m.sale(i, 4), sales[i][0]);
      due.is("price of " + i, m.sale(i, 5), sales[i][1]);
    }
    due.is("all are shown here", m.come(6, 0), 0);
    m.page(2);
    due.is("another page", m.come(6, 1), 1);
    due.is("33 * 2 / 100 is 1 at least", m.sale(3, 5), 1);
    m.tick(1);
    m.apart(0, 1, 1);
    due.is("places that stay empty", m.come(5, 0), 2);
    due.is("the first", m.sale(4, 4), 1);
    due.is("then the house", m.sale(5, 4), 2);
  }

  /** Seven pages of four places, so that 1000 sales are there before the calls are used up. */
  private static void promise13Full() {
    NoticeMarket m = new NoticeMarket();
    for (int page = 0; page < 7; page++) m.page(((100 * 128 + 100) * 128 + 100) * 128 + 100);
    m.page(100);
    for (int c = 0; c < 4; c++) m.campaign(20, 0, 0);
    for (int i = 0; i < 249; i++) {
      due.is("four sales", m.come(i % 100, i % 7), 4);
      if (i % 7 == 6) m.tick(1);
    }
    due.is("996 sales", m.count(2), 996);
    m.tick(1);
    due.is("one more on the small page", m.come(0, 7), 1);
    due.is("four more would be 1001", m.come(0, 0), FULL);
    due.is("BAD ahead of FULL", m.come(-1, 0), BAD);
    m.tick(1);
    m.refund(0);
    due.is("one that is taken back is still one", m.come(0, 0), FULL);
    due.is("best is not FULL", m.best(0, 0), 0);
    due.is("give is not FULL", m.give(0, 0, 3), 3);
    for (int i = 0; i < 3; i++) {
      due.is("up to 1000", m.come(0, 7), 1);
      m.tick(1);
    }
    due.is("1000 sales", m.count(2), 1000);
    due.is("full", m.come(0, 7), FULL);
    due.is("the last one", m.sale(999, 2), 7);
    due.is("none beyond", m.sale(1000, 2), BAD);
    due.is("nothing changed", m.count(2), 1000);
    fourUpTo1000();
  }

  private static void fourUpTo1000() {
    NoticeMarket m = new NoticeMarket();
    for (int page = 0; page < 5; page++) m.page(((100 * 128 + 100) * 128 + 100) * 128 + 100);
    for (int c = 0; c < 4; c++) m.campaign(20, 0, 0);
    for (int i = 0; i < 250; i++) {
      due.is("four sales", m.come(i % 100, i % 5), 4);
      if (i % 5 == 4) m.tick(1);
    }
    due.is("just 1000", m.count(2), 1000);
    due.is("full", m.come(0, 0), FULL);
  }

  private static void promise13LossPrices() {
    NoticeMarket m = new NoticeMarket();
    m.page(100 * 128 + 50);
    m.rule(1);
    Setup.bidder(m, 0, 100);
    Setup.bidder(m, 0, 60);
    Setup.bidder(m, 0, 41);
    m.campaign(10, 0, 1);
    m.come(0, 0);
    due.is("60 + 20.5 - 30 is 50.5", m.sale(0, 5), 50);
    due.is("120.5 - 100 is 20.5", m.sale(1, 5), 20);
    m.tick(1);
    m.promise(3, 1, 0);
    m.tick(98);
    due.is("not behind yet", m.told(3, 6), 0);
    m.tick(1);
    due.is("behind", m.told(3, 6), 1);
    due.is("two sales", m.come(0, 0), 2);
    due.is("the one behind, at the greater size", m.sale(2, 4), 0);
    due.is("PROMISED comes second", m.sale(3, 4), 3);
    due.is("100 instead of 60", m.sale(2, 5), 60);
    due.is("PROMISED pays nothing", m.sale(3, 5), 0);
    lossOfTwoThatAreApart();
  }

  private static void lossOfTwoThatAreApart() {
    NoticeMarket m = new NoticeMarket();
    m.page(100 * 128 + 100);
    m.rule(1);
    Setup.bidder(m, 0, 90);
    Setup.bidder(m, 0, 50);
    Setup.bidder(m, 0, 45);
    Setup.bidder(m, 0, 30);
    m.apart(0, 1, 1);
    m.apart(0, 2, 1);
    due.is("90 and 30 beat 50 and 45", m.best(1, 0), 120000000L);
    m.come(1, 0);
    due.is("without 0: 95, the other has 30", m.sale(0, 5), 65);
    due.is("without 3: 95, the other has 90", m.sale(1, 5), 5);
  }

  private static void promise13LossAtMostFirst() {
    NoticeMarket m = new NoticeMarket();
    m.page(50);
    m.rule(1);
    Setup.bidder(m, 0, 1);
    Setup.bidder(m, 0, 1);
    m.come(0, 0);
    due.is("0.5 away: 0", m.sale(0, 5), 0);
    due.is("the lesser number", m.sale(0, 4), 0);
    NoticeMarket k = new NoticeMarket();
    k.page(1);
    k.rule(1);
    Setup.bidder(k, 0, 999);
    Setup.bidder(k, 0, 998);
    k.come(0, 0);
    due.is("9.98 of at most 9", k.sale(0, 5), 9);
  }

  private static void promise14Why() {
    NoticeMarket m = new NoticeMarket();
    m.page(100);
    m.page(100);
    m.campaign(0, 4096, 10);
    m.campaign(20, 0, 0);
    int[][] wrong = {{-1, 0, 0}, {2, 0, 0}, {0, -1, 0}, {0, 100, 0}, {0, 0, -1}, {0, 0, 2}, {MOST, 0, 0}, {0, LEAST, 0}};
    for (int[] w : wrong) due.is("why " + w[0] + " " + w[1] + " " + w[2], m.why(w[0], w[1], w[2]), BAD);
    m.stop(0, 1);
    due.is("stopped", m.why(0, 0, 0), 1);
    m.stop(0, 0);
    due.is("marks", m.why(0, 0, 0), 2);
    m.marks(0, 1);
    due.is("budget", m.why(0, 0, 0), 4);
    m.budget(0, 29, 25);
    due.is("nothing", m.why(0, 0, 0), 0);
    m.come(0, 0);
    due.is("itself", m.why(0, 0, 0), 7);
    due.is("another page", m.why(0, 0, 1), 0);
    m.cap(0, 1, 2);
    due.is("cap, on any page", m.why(0, 0, 1), 3);
    m.marks(1, 1);
    due.is("not of another reader", m.why(0, 1, 1), 0);
    m.come(1, 1);
    m.marks(2, 1);
    due.is("of 25 in all 5 are left", m.why(0, 2, 0), 4);
    m.budget(0, 29, 1000);
    due.is("of 29 a day 9 are left", m.why(0, 2, 0), 4);
    m.budget(0, 30, 1000);
    due.is("itself, to whomever", m.why(0, 2, 0), 7);
    m.apart(0, 1, 1);
    due.is("apart from the one that was shown", m.why(1, 2, 0), 6);
    m.tick(1);
    due.is("at another tick it hinders nothing", m.why(1, 2, 0), 0);
    due.is("HOUSE asks for no budget", m.told(1, 7), 0);
  }

  private static void promise14Throttle() {
    NoticeMarket m = new NoticeMarket();
    m.page(100);
    Setup.bidder(m, 0, 1);
    Setup.bidder(m, 0, 1);
    m.come(0, 0);
    m.budget(0, 0, 1000);
    m.pace(10, 50);
    m.tick(70);
    m.budget(0, 1000, 1000);
    int throttle = m.told(0, 5);
    due.is("seven times nine tenths", throttle, 477);
    m.apart(0, 1, 1);
    for (int reader = 0; reader < 100; reader++) {
      int want = m.draw(0, reader) < throttle ? 0 : 5;
      due.is("why of " + reader, m.why(0, reader, 0), want);
    }
    m.stop(0, 1);
    m.come(0, 0);
    m.stop(0, 0);
    due.is("campaign 1 was shown", m.sale(1, 4), 1);
    for (int reader = 0; reader < 100; reader++) {
      int want = m.draw(0, reader) < throttle ? 6 : 5;
      due.is("why then of " + reader, m.why(0, reader, 0), want);
    }
  }

  private static void promise14TakenBack() {
    NoticeMarket m = new NoticeMarket();
    m.page(100);
    Setup.bidder(m, 0, 10);
    Setup.bidder(m, 0, 5);
    m.apart(0, 1, 1);
    m.budget(0, 10, 10);
    m.cap(0, 1, 1000);
    m.come(0, 0);
    due.is("cap", m.why(0, 0, 0), 3);
    due.is("budget", m.why(0, 1, 0), 4);
    due.is("apart", m.why(1, 0, 0), 6);
    m.refund(0);
    due.is("no cap", m.why(0, 0, 0), 0);
    due.is("no budget", m.why(0, 1, 0), 0);
    due.is("not apart", m.why(1, 0, 0), 0);
    m.come(0, 0);
    due.is("shown again at one tick", m.sale(1, 4), 0);
    due.is("and it hinders", m.why(1, 0, 0), 6);
  }

  private static void promise15Best() {
    NoticeMarket m = new NoticeMarket();
    due.is("no page", m.best(0, 0), BAD);
    m.page(100 * 128 + 100);
    due.is("none", m.best(0, 0), 0);
    int[][] wrong = {{-1, 0}, {100, 0}, {0, -1}, {0, 1}, {MOST, 0}, {0, LEAST}};
    for (int[] w : wrong) due.is("best " + w[0] + " " + w[1], m.best(w[0], w[1]), BAD);
    m.campaign(20, 0, 0);
    due.is("HOUSE is worth 0", m.best(0, 0), 0);
    m.campaign(10, 0, 1000);
    m.campaign(10, 0, 1000);
    due.is("PROMISED as told", m.best(0, 0), 2000000000L);
    m.promise(1, 1000, 0);
    m.promise(2, 1000, 0);
    m.tick(1);
    due.is("both behind", m.best(0, 0), 4000000000L);
    due.is("a look sells nothing", m.count(2), 0);
    due.is("a look changes nothing", m.best(0, 0), 4000000000L);
  }

  private static void promise15ByPress() {
    NoticeMarket m = new NoticeMarket();
    m.page(7);
    Setup.bidder(m, 1, 3);
    due.is("210000 / 20", m.best(0, 0), 10500);
    m.come(0, 0);
    m.press(0);
    due.is("already shown", m.best(0, 0), 0);
    m.tick(1);
    due.is("210000 * 2 / 21", m.best(0, 0), 20000);
    m.come(0, 0);
    m.tick(1);
    due.is("210000 * 2 / 22", m.best(0, 0), 19090);
    m.press(1);
    due.is("not of this tick", m.best(0, 0), 19090);
    m.tick(1);
    due.is("210000 * 3 / 22", m.best(0, 0), 28636);
    m.refund(1);
    due.is("210000 * 2 / 21 again", m.best(0, 0), 20000);
  }

  private static void promise16Ties() {
    NoticeMarket m = new NoticeMarket();
    m.page((50 * 128 + 50) * 128 + 50);
    for (int c = 0; c < 4; c++) Setup.bidder(m, 0, 10);
    for (int place = 0; place < 3; place++) due.is("the lesser first", m.give(0, 0, place), place);
    m.stop(1, 1);
    int[] then = {0, 2, 3};
    for (int place = 0; place < 3; place++) due.is("without 1", m.give(0, 0, place), then[place]);
    m.stop(2, 1);
    int[] fewer = {0, 3, NOT};
    for (int place = 0; place < 3; place++) due.is("none counts as greater", m.give(0, 0, place), fewer[place]);
    m.campaign(20, 0, 0);
    int[] house = {0, 3, 4};
    for (int place = 0; place < 3; place++) due.is("the most places", m.give(0, 0, place), house[place]);
    NoticeMarket k = new NoticeMarket();
    k.page((10 * 128 + 50) * 128 + 50);
    k.campaign(20, 0, 0);
    Setup.bidder(k, 0, 10);
    int[] worth = {0, 1, NOT};
    for (int place = 0; place < 3; place++) due.is("0 ahead of 1", k.give(0, 0, place), worth[place]);
    sumAheadOfPlaces();
  }

  private static void sumAheadOfPlaces() {
    NoticeMarket m = new NoticeMarket();
    m.page((100 * 128 + 100) * 128 + 100);
    Setup.bidder(m, 0, 3);
    Setup.bidder(m, 0, 1);
    Setup.bidder(m, 0, 1);
    m.campaign(20, 0, 0);
    for (int c = 1; c < 4; c++) m.apart(0, c, 1);
    due.is("3 alone beats 1 and 1 and 0", m.best(0, 0), 3000000L);
    due.is("it is alone", m.give(0, 0, 1), NOT);
    Setup.bidder(m, 0, 1);
    due.is("3 and 1 beat 1 and 1 and 1", m.best(0, 0), 4000000L);
    m.apart(0, 4, 1);
    due.is("of 3 and 1 + 1 + 1 the most places", m.give(0, 0, 0), 1);
  }

  private static void promise16Apart() {
    NoticeMarket m = new NoticeMarket();
    m.page(((100 * 128 + 90) * 128 + 80) * 128 + 70);
    Setup.bidder(m, 0, 9);
    Setup.bidder(m, 0, 9);
    Setup.bidder(m, 0, 8);
    Setup.bidder(m, 0, 7);
    m.campaign(20, 0, 0);
    m.apart(0, 1, 1);
    m.rule(1);
    int[] want = {0, 2, 3, 4};
    for (int place = 0; place < 4; place++) due.is("place " + place, m.give(1, 0, place), want[place]);
    due.is("sum", m.best(1, 0), 10000L * (9 * 100 + 8 * 90 + 7 * 80));
    m.come(1, 0);
    int[] price = {9, 0, 0, 0};
    for (int place = 0; place < 4; place++) due.is("price " + place, m.sale(place, 5), price[place]);
    due.is("nothing is left", m.give(2, 0, 0), NOT);
  }

  private static void promise16Wrong() {
    NoticeMarket m = new NoticeMarket();
    due.is("no page", m.give(0, 0, 0), BAD);
    m.page(100 * 128 + 1);
    int[][] wrong = {{-1, 0, 0}, {100, 0, 0}, {0, -1, 0}, {0, 1, 0}, {0, 0, -1}, {0, 0, 2}, {0, 0, MOST}, {LEAST, 0, 0}};
    for (int[] w : wrong) due.is("give " + w[0] + " " + w[1] + " " + w[2], m.give(w[0], w[1], w[2]), BAD);
    due.is("none", m.give(99, 0, 1), NOT);
    for (int c = 0; c < 40; c++) m.campaign(20, 0, 0);
    m.stop(0, 1);
    due.is("place 0", m.give(99, 0, 0), 1);
    due.is("place 1", m.give(99, 0, 1), 2);
    for (int c = 1; c < 39; c++) m.stop(c, 1);
    due.is("the last campaign", m.give(99, 0, 0), 39);
    due.is("alone", m.give(99, 0, 1), NOT);
  }

  private static void promise17Sale() {
    NoticeMarket m = new NoticeMarket();
    m.page(100);
    m.page(50 * 128 + 80);
    m.tick(37);
    Setup.bidder(m, 0, 10);
    Setup.bidder(m, 1, 1000);
    m.come(64, 1);
    int[][] want = {{37, 64, 1, 0, 0, 5, 0}, {37, 64, 1, 1, 1, 800, 1}};
    for (int i = 0; i < 2; i++) {
      for (int what = 0; what < 7; what++) due.is("sale(" + i + ", " + what + ")", m.sale(i, what), want[i][what]);
      due.is("what 7", m.sale(i, 7), BAD);
      due.is("what -1", m.sale(i, -1), BAD);
    }
    due.is("sale 2", m.sale(2, 0), BAD);
    due.is("sale -1", m.sale(-1, 0), BAD);
    due.is("sale MOST", m.sale(MOST, 0), BAD);
    m.press(0);
    m.press(1);
    due.is("pressed", m.sale(0, 6), 2);
    due.is("pressed too", m.sale(1, 6), 2);
    m.refund(1);
    due.is("taken back", m.sale(1, 6), 3);
    due.is("the price is told still", m.sale(1, 5), 800);
  }

  private static void promise18Press() {
    NoticeMarket m = new NoticeMarket();
    due.is("no sale", m.press(0), BAD);
    m.page(100);
    Setup.bidder(m, 1, 40);
    m.come(0, 0);
    due.is("sale 1", m.press(1), BAD);
    due.is("sale -1", m.press(-1), BAD);
    due.is("kept aside", m.told(0, 2), 40);
    due.is("not spent", m.told(0, 0), 0);
    m.tick(50);
    due.is("at the last tick", m.press(0), 1);
    due.is("no more aside", m.told(0, 2), 0);
    due.is("spent", m.told(0, 0), 40);
    due.is("of the day, once", m.told(0, 1), 40);
    due.is("income", m.income(0), 40);
    due.is("once", m.press(0), NOT);
    due.is("spent once", m.told(0, 0), 40);
    m.come(0, 0);
    m.tick(51);
    due.is("it is free", m.sale(1, 6), 0);
    due.is("too late", m.press(1), NOT);
    due.is("nothing aside", m.told(0, 2), 0);
    due.is("nothing spent", m.told(0, 0), 40);
    due.is("one press", m.told(0, 4), 1);
    due.is("two showings", m.told(0, 3), 2);
    m.come(0, 0);
    m.refund(2);
    due.is("of one that is taken back", m.press(2), NOT);
  }

  private static void promise18ByShowing() {
    NoticeMarket m = new NoticeMarket();
    m.page((100 * 128 + 100) * 128 + 100);
    Setup.bidder(m, 0, 40);
    m.campaign(10, 0, 30);
    m.campaign(20, 0, 0);
    m.pace(0, 3);
    m.come(0, 0);
    m.pace(0, 200);
    m.tick(3);
    due.is("by showing", m.press(0), 1);
    due.is("promised", m.press(1), 1);
    due.is("once", m.press(0), NOT);
    due.is("nothing is paid", m.told(0, 0), 40);
    due.is("nothing is paid of PROMISED", m.told(1, 0), 0);
    m.tick(1);
    due.is("too late", m.press(2), NOT);
    due.is("its state", m.sale(2, 6), 0);
    due.is("presses", m.told(0, 4), 1);
    due.is("no presses", m.told(2, 4), 0);
    due.is("chance", m.chance(0), 2000000 / 21);
  }

  private static void promise19Refund() {
    NoticeMarket m = new NoticeMarket();
    due.is("no sale", m.refund(0), BAD);
    m.page(100 * 128 + 100);
    Setup.bidder(m, 0, 40);
    Setup.bidder(m, 1, 30);
    m.come(0, 0);
    due.is("sale 2", m.refund(2), BAD);
    due.is("sale -1", m.refund(-1), BAD);
    due.is("of one by showing", m.refund(0), 40);
    due.is("once", m.refund(0), NOT);
    due.is("nothing spent", m.told(0, 0), 0);
    due.is("nothing of the day", m.told(0, 1), 0);
    due.is("no showing", m.told(0, 3), 0);
    due.is("of one that waits", m.refund(1), 0);
    due.is("nothing aside", m.told(1, 2), 0);
    due.is("the day's left", m.told(1, 7), 1000000);
    m.tick(1);
    m.come(0, 0);
    m.press(2);
    m.press(3);
    m.tick(1);
    due.is("chance", m.chance(1), 2000000 / 21);
    due.is("of one by press, pressed", m.refund(3), 30);
    due.is("no press", m.told(1, 4), 0);
    due.is("chance again", m.chance(1), 50000);
    due.is("of one by showing, pressed", m.refund(2), 40);
    due.is("income", m.income(0), 0);
    m.come(0, 0);
    m.tick(51);
    due.is("of one that is free", m.refund(5), 0);
    due.is("nothing aside still", m.told(1, 2), 0);
    due.is("left in all", m.told(1, 8), 1000000);
    due.is("taken back", m.count(4), 5);
    due.is("all sales", m.count(2), 6);
    due.is("all spent", m.count(5), 40);
  }

  private static void promise19RefundOfEarlierDays() {
    NoticeMarket m = new NoticeMarket();
    m.page(100 * 128 + 100);
    Setup.bidder(m, 0, 40);
    Setup.bidder(m, 1, 30);
    m.pace(0, 200);
    m.tick(99);
    m.come(0, 0);
    m.tick(1);
    m.come(0, 0);
    due.is("this day's", m.told(0, 1), 40);
    due.is("this day's aside", m.told(1, 1), 30);
    due.is("yesterday's back", m.refund(0), 40);
    due.is("this day's stays", m.told(0, 1), 40);
    m.press(1);
    due.is("yesterday's press", m.told(1, 1), 30);
    due.is("spent", m.told(1, 0), 30);
    due.is("aside", m.told(1, 2), 30);
    due.is("today's back", m.refund(2), 40);
    due.is("this day's none", m.told(0, 1), 0);
    due.is("of all none", m.told(0, 0), 0);
  }
}
