import java.util.Arrays;

/** The document's promises 1 to 24: a test for each sentence that names an edge. */
public final class EdgesOfCallsTest {
  private static final Due due = new Due("EdgesOfCallsTest");
  private static final int BAD = -1, NOT = -2, FULL = -3, BAD_TOLD = -2000000;
  private static final int LEAST = Setup.LEAST, MOST = Setup.MOST;

  public static void main(String[] args) {
    newObjectIsEmpty();
    newObjectHasNoneToAskFor();
    pageDigits();
    pageZeroDigits();
    pageBeyondFourDigits();
    pageFull();
    marksEdges();
    campaignHow();
    campaignWish();
    campaignBid();
    campaignFull();
    campaignBudgets();
    budgetEdges();
    capEdges();
    apartEdges();
    promiseEdges();
    promisePastDay();
    promiseNot();
    stopEdges();
    ruleEdges();
    paceEdges();
    tickEdges();
    tickAtMost();
    ticksOneByOne();
    comeEdges();
    comeFull();
    comeFullWithNoneToGive();
    whyEdges();
    bestEdges();
    giveEdges();
    saleEdges();
    saleStates();
    pressEdges();
    pressByShowing();
    pressNot();
    refundEdges();
    refundFromAnyState();
    refundCountsForNothing();
    toldEdges();
    toldLeftNotBelowZero();
    chanceEdges();
    drawEdges();
    incomeEdges();
    countEdges();
    severalAnswers();
    due.end();
  }

  private static void newObjectIsEmpty() {
    due.says("No pages, no campaigns, TICK 0, RULE 0");
    NoticeMarket m = new NoticeMarket();
    for (int what = 0; what <= 5; what++) due.is("count(" + what + ")", m.count(what), 0);
    due.is("rule", m.rule(1), 0);
    due.is("the first page", m.page(1), 0);
    due.is("the first campaign", m.campaign(20, 0, 0), 0);
    NoticeMarket other = new NoticeMarket();
    due.is("another object has its own", other.count(0), 0);
    due.is("its own rule", other.rule(0), 0);
  }

  private static void newObjectHasNoneToAskFor() {
    due.says("BAD (-1): no such page, reader, campaign, sale");
    NoticeMarket m = new NoticeMarket();
    long[] answers = {m.budget(0, 0, 0), m.cap(0, 1, 1), m.promise(0, 1, 0), m.stop(0, 0), m.come(0, 0), m.best(0, 0),
        m.give(0, 0, 0), m.sale(0, 0), m.press(0), m.refund(0), m.chance(0), m.draw(0, 0), m.income(0), m.why(0, 0, 0)};
    for (int i = 0; i < answers.length; i++) due.is("empty, call " + i, answers[i], BAD);
    due.is("told", m.told(0, 0), BAD_TOLD);
    m.page(1);
    due.is("why with a page alone", m.why(0, 0, 0), BAD);
    m.campaign(20, 0, 0);
    due.is("apart with one campaign", m.apart(0, 1, 1), BAD);
    due.is("sale with no sales", m.sale(0, 0), BAD);
    due.is("time goes by", m.tick(100), 100);
  }

  private static void pageDigits() {
    due.says("sizes: each as a digit of base 128, place 0's highest");
    int[] digits = {1, 2, 99, 100};
    for (int a : digits) {
      for (int b : digits) {
        for (int d : digits) isPageOf(a, b, d, 101 - a);
        isPageOf(a, b);
      }
      isPageOf(a);
      isPageOf(a, 100, 1);
    }
  }

  /** Four campaigns of the same bid are given in order, so the prices are the sizes. */
  private static void isPageOf(int... sizes) {
    NoticeMarket m = new NoticeMarket();
    due.is("page", m.page(Setup.sizes(sizes)), 0);
    for (int c = 0; c < 4; c++) Setup.bidder(m, 0, 100);
    due.is("places", m.come(0, 0), sizes.length);
    for (int place = 0; place < sizes.length; place++) due.is("size " + place, m.sale(place, 5), sizes[place]);
  }

  private static void pageZeroDigits() {
    due.says("no zero digits among them, none ahead");
    int[][] wrong = {{0}, {1, 0}, {1, 0, 1}, {1, 1, 0}, {1, 0, 0}, {1, 1, 1, 0}, {1, 1, 0, 1}, {1, 0, 1, 1}, {1, 1, 0, 0},
        {1, 0, 1, 0}, {1, 0, 0, 1}, {1, 0, 0, 0}};
    NoticeMarket m = new NoticeMarket();
    for (int[] sizes : wrong) due.is("page " + Setup.sizes(sizes), m.page(Setup.sizes(sizes)), BAD);
    int[] digits = {0, 1, 100, 101, 127};
    for (int a : digits) {
      for (int b : digits) {
        for (int d : digits) {
          if (isSize(a) && isSize(b) && isSize(d)) continue;
          due.is("page 50 " + a + " " + b + " " + d, m.page(Setup.sizes(50, a, b, d)), BAD);
        }
      }
    }
    due.is("none was made", m.count(0), 0);
  }

  private static boolean isSize(int digit) {
    return digit >= 1 && digit <= 100;
  }

  private static void pageBeyondFourDigits() {
    due.says("A new PAGE with 1 to 4 PLACES");
    NoticeMarket m = new NoticeMarket();
    int four = 1 << 28;
    int[] wrong = {four - 1, four, four + 1, four + Setup.sizes(1, 1, 1, 1), 7 * four + Setup.sizes(100, 100, 100, 100),
        MOST, LEAST, LEAST + 1, -1, -100, -Setup.sizes(1, 1), -Setup.sizes(100, 100, 100, 100)};
    for (int sizes : wrong) due.is("page " + sizes, m.page(sizes), BAD);
    due.is("the least", m.page(1), 0);
    due.is("the greatest", m.page(Setup.sizes(100, 100, 100, 100)), 1);
  }

  private static void pageFull() {
    due.says("its number. BAD, FULL");
    NoticeMarket m = new NoticeMarket();
    for (int page = 0; page < 8; page++) due.is("page", m.page(100), page);
    for (int i = 0; i < 3; i++) due.is("full", m.page(100), FULL);
    due.is("BAD first", m.page(101), BAD);
    due.is("eight", m.count(0), 8);
  }

  private static void marksEdges() {
    due.says("The MARKS of a reader: what they were");
    NoticeMarket m = new NoticeMarket();
    int[][] wrong = {{-1, 1}, {100, 1}, {LEAST, 1}, {MOST, 1}, {0, -1}, {0, 4096}, {0, LEAST}, {0, MOST}, {99, 4096}};
    for (int[] w : wrong) due.is("marks " + w[0] + " " + w[1], m.marks(w[0], w[1]), BAD);
    due.is("of 0 at first", m.marks(0, 4095), 0);
    due.is("of 99 at first", m.marks(99, 1), 0);
    for (int[] w : wrong) due.is("marks " + w[0] + " " + w[1], m.marks(w[0], w[1]), BAD);
    due.is("of 0 then", m.marks(0, 0), 4095);
    due.is("of 99 then", m.marks(99, 0), 1);
    due.is("of 0 at last", m.marks(0, 0), 0);
  }

  private static void campaignHow() {
    due.says("how: 10 times SORT, and PAYS (0 of PROMISED, HOUSE)");
    NoticeMarket m = new NoticeMarket();
    int made = 0;
    for (int how = -12; how <= 110; how++) {
      boolean bids = how == 0 || how == 1 || how == 10;
      due.is("how " + how + " with a bid", m.campaign(how, 0, 5), bids ? made++ : BAD);
      due.is("how " + how + " without one", m.campaign(how, 0, 0), how == 20 ? made++ : BAD);
    }
    due.is("how LEAST", m.campaign(LEAST, 0, 5), BAD);
    due.is("how MOST", m.campaign(MOST, 0, 5), BAD);
    due.is("four", m.count(1), 4);
  }

  private static void campaignWish() {
    due.says("wish: 4096 times the bits that must be there, and those that must not (none both)");
    NoticeMarket m = new NoticeMarket();
    int[] wrong = {-1, -4096, LEAST, MOST, 4096 * 4096, 4096 * 4096 + 1, 4096 * 4096 - 1, 4096 * 4095 + 1, 4097, 8191,
        4096 * 4095 + 2048};
    for (int wish : wrong) due.is("wish " + wish, m.campaign(20, wish, 0), BAD);
    for (int b = 0; b < 12; b++) {
      due.is("bit " + b + " of both", m.campaign(20, (4096 << b) + (1 << b), 0), BAD);
      due.is("bit " + b + " of all and not", m.campaign(20, 4096 * 4095 + (1 << b), 0), BAD);
    }
    int[] good = {0, 1, 4095, 4096, 4096 * 4095, 4096 * 2048 + 2047, 4096 + 4094, 4096 * 4094 + 1};
    for (int i = 0; i < good.length; i++) due.is("wish " + good[i], m.campaign(20, good[i], 0), i);
  }

  private static void campaignBid() {
    due.says("a BID (1 .. 1000 coins; of HOUSE 0)");
    NoticeMarket m = new NoticeMarket();
    int made = 0;
    for (int how : new int[] {0, 1, 10}) {
      int[] wrong = {0, -1, 1001, LEAST, MOST};
      for (int bid : wrong) due.is("bid " + bid + " of " + how, m.campaign(how, 0, bid), BAD);
      due.is("bid 1 of " + how, m.campaign(how, 0, 1), made++);
      due.is("bid 1000 of " + how, m.campaign(how, 0, 1000), made++);
    }
    int[] wrong = {1, -1, 1000, LEAST, MOST};
    for (int bid : wrong) due.is("bid " + bid + " of HOUSE", m.campaign(20, 0, bid), BAD);
    due.is("bid 0 of HOUSE", m.campaign(20, 0, 0), made);
  }

  private static void campaignFull() {
    due.says("A new campaign: its number");
    NoticeMarket m = new NoticeMarket();
    for (int c = 0; c < 40; c++) due.is("campaign", m.campaign(c % 2, 0, 5), c);
    for (int i = 0; i < 3; i++) due.is("full", m.campaign(20, 0, 0), FULL);
    int[][] wrong = {{2, 0, 5}, {0, -1, 5}, {0, 4097, 5}, {0, 0, 0}, {20, 0, 1}};
    for (int[] w : wrong) due.is("BAD first", m.campaign(w[0], w[1], w[2]), BAD);
    due.is("forty", m.count(1), 40);
  }

  private static void campaignBudgets() {
    due.says("Its budgets are 0");
    NoticeMarket m = Setup.market(1);
    m.campaign(0, 0, 1);
    m.campaign(1, 0, 1);
    for (int c = 0; c < 2; c++) {
      due.is("left of the DAY", m.told(c, 7), 0);
      due.is("left in all", m.told(c, 8), 0);
      due.is("too little", m.why(c, 0, 0), 4);
      m.budget(c, 1, 0);
      due.is("of the DAY alone", m.why(c, 0, 0), 4);
      m.budget(c, 0, 1);
      due.is("in all alone", m.why(c, 0, 0), 4);
      m.budget(c, 1, 1);
      due.is("both", m.why(c, 0, 0), 0);
    }
  }

  private static void budgetEdges() {
    due.says("Budgets of a campaign, of a DAY and in all: 1");
    NoticeMarket m = new NoticeMarket();
    m.campaign(0, 0, 5);
    m.campaign(10, 0, 5);
    m.campaign(20, 0, 0);
    for (int c = 0; c < 3; c++) {
      due.is("the greatest", m.budget(c, 1000000, 1000000), 1);
      int[][] wrong = {{c, -1, 0}, {c, 0, -1}, {c, 1000001, 0}, {c, 0, 1000001}, {c, LEAST, 0}, {c, 0, MOST}, {3, 0, 0}, {-1, 0, 0}};
      for (int[] w : wrong) due.is("budget " + w[0] + " " + w[1] + " " + w[2], m.budget(w[0], w[1], w[2]), BAD);
      due.is("the DAY's is unchanged", m.told(c, 7), 1000000);
      due.is("that in all is unchanged", m.told(c, 8), 1000000);
      due.is("the least", m.budget(c, 0, 0), 1);
      due.is("none of the DAY", m.told(c, 7), 0);
      due.is("none in all", m.told(c, 8), 0);
      due.is("each its own", m.budget(c, 7, 1000000), 1);
      due.is("7 of the DAY", m.told(c, 7), 7);
      due.is("the greatest in all", m.told(c, 8), 1000000);
    }
  }

  private static void capEdges() {
    due.says("CAP and SPAN: 1. BAD");
    NoticeMarket m = Setup.market(100);
    Setup.house(m);
    m.come(0, 0);
    due.is("cap", m.cap(0, 1, 2), 1);
    int[][] wrong = {{0, 0, 2}, {0, 10, 2}, {0, 1, 0}, {0, 1, 1001}, {0, -1, 2}, {0, 1, -1}, {0, LEAST, 2}, {0, 1, MOST},
        {1, 1, 2}, {-1, 1, 2}, {MOST, 1, 2}};
    for (int[] w : wrong) due.is("cap " + w[0] + " " + w[1] + " " + w[2], m.cap(w[0], w[1], w[2]), BAD);
    m.tick(1);
    due.is("unchanged", m.why(0, 0, 0), 3);
    m.tick(1);
    due.is("unchanged then", m.why(0, 0, 0), 0);
    int[][] good = {{1, 1}, {1, 1000}, {9, 1}, {9, 1000}};
    for (int[] g : good) due.is("cap " + g[0] + " " + g[1], m.cap(0, g[0], g[1]), 1);
  }

  private static void apartEdges() {
    due.says("Two campaigns are APART (1) or not (0): what they were. BAD (also one and the same)");
    NoticeMarket m = new NoticeMarket();
    Setup.houses(m, 3);
    int[][] wrong = {{0, 0, 0}, {0, 0, 1}, {2, 2, 1}, {0, 3, 1}, {3, 0, 1}, {-1, 0, 1}, {0, -1, 1}, {0, 1, -1}, {0, 1, 2},
        {LEAST, 0, 1}, {0, MOST, 1}, {0, 1, LEAST}, {3, 3, 1}};
    for (int[] w : wrong) due.is("apart " + w[0] + " " + w[1] + " " + w[2], m.apart(w[0], w[1], w[2]), BAD);
    due.is("not at first", m.apart(0, 1, 1), 0);
    for (int[] w : wrong) due.is("apart " + w[0] + " " + w[1] + " " + w[2], m.apart(w[0], w[1], w[2]), BAD);
    due.is("already", m.apart(0, 1, 1), 1);
    due.is("no more", m.apart(1, 0, 0), 1);
    due.is("already not", m.apart(0, 1, 0), 0);
  }

  private static void promiseEdges() {
    due.says("MANY (1 .. 1000) and the DAY of a PROMISED campaign, from the TICK now on: 1");
    NoticeMarket m = new NoticeMarket();
    m.campaign(10, 0, 5);
    int[][] wrong = {{0, 0, 0}, {0, 1001, 0}, {0, -1, 0}, {0, LEAST, 0}, {0, MOST, 0}, {1, 1, 0}, {-1, 1, 0}, {0, 1, -1}, {0, 1, LEAST}};
    for (int[] w : wrong) due.is("promise " + w[0] + " " + w[1] + " " + w[2], m.promise(w[0], w[1], w[2]), BAD);
    m.tick(50);
    due.is("nothing was told", m.told(0, 6), 0);
    due.is("the least", m.promise(0, 1, 0), 1);
    due.is("the greatest", m.promise(0, 1000, 0), 1);
    m.tick(1);
    due.is("1000 / 50", m.told(0, 6), 1);
    for (int[] w : wrong) due.is("promise " + w[0] + " " + w[1] + " " + w[2], m.promise(w[0], w[1], w[2]), BAD);
    due.is("unchanged", m.told(0, 6), 1);
  }

  private static void promisePastDay() {
    due.says("BAD: also a DAY that is past");
    NoticeMarket m = new NoticeMarket();
    m.campaign(10, 0, 5);
    int[][] tickDay = {{0, 0}, {99, 0}, {100, 1}, {199, 1}, {200, 2}, {9999, 99}, {10000, 100}};
    for (int[] td : tickDay) {
      Setup.tickTo(m, td[0]);
      due.is("the DAY ahead of it at " + td[0], m.promise(0, 1, td[1] - 1), BAD);
      due.is("this DAY at " + td[0], m.promise(0, 1, td[1]), 1);
      due.is("the DAY behind it at " + td[0], m.promise(0, 1, td[1] + 1), 1);
    }
  }

  private static void promiseNot() {
    due.says("NOT: it is not PROMISED. (Until this is told it is never BEHIND.)");
    NoticeMarket m = new NoticeMarket();
    m.campaign(0, 0, 5);
    m.campaign(1, 0, 5);
    m.campaign(20, 0, 0);
    m.campaign(10, 0, 5);
    m.tick(100);
    for (int c = 0; c < 3; c++) {
      due.is("not PROMISED", m.promise(c, 1, 1), NOT);
      due.is("BAD first, MANY", m.promise(c, 0, 1), BAD);
      due.is("BAD first, DAY", m.promise(c, 1, 0), BAD);
    }
    Setup.tickTo(m, 300);
    for (int c = 0; c < 4; c++) due.is("never behind", m.told(c, 6), 0);
  }

  private static void stopEdges() {
    due.says("A campaign is STOPPED (1) or not (0): what it was");
    NoticeMarket m = new NoticeMarket();
    Setup.houses(m, 2);
    due.is("not at first", m.stop(0, 1), 0);
    int[][] wrong = {{0, -1}, {0, 2}, {0, LEAST}, {0, MOST}, {2, 0}, {-1, 0}, {MOST, 0}, {LEAST, 1}};
    for (int[] w : wrong) due.is("stop " + w[0] + " " + w[1], m.stop(w[0], w[1]), BAD);
    due.is("already", m.stop(0, 1), 1);
    due.is("told", m.told(0, 9), 1);
    due.is("not the other", m.told(1, 9), 0);
    due.is("no more", m.stop(0, 0), 1);
    due.is("already not", m.stop(0, 0), 0);
  }

  private static void ruleEdges() {
    due.says("RULE (0, 1): what it was");
    NoticeMarket m = new NoticeMarket();
    int[] wrong = {-1, 2, LEAST, MOST};
    for (int rule = 0; rule < 2; rule++) {
      due.is("what it was", m.rule(1 - rule), rule);
      for (int r : wrong) due.is("rule " + r, m.rule(r), BAD);
      due.is("the same again", m.rule(1 - rule), 1 - rule);
    }
  }

  private static void paceEdges() {
    due.says("PACE (0, 10 .. 100), and WAIT: 1");
    NoticeMarket m = Setup.market(100);
    Setup.bidder(m, 1, 10);
    m.budget(0, 10, 1000);
    int[] paces = {0, 10, 11, 99, 100};
    int[] waits = {1, 2, 199, 200};
    for (int n : paces) for (int wait : waits) due.is("pace " + n + " " + wait, m.pace(n, wait), 1);
    due.is("told", m.pace(10, 15), 1);
    int[][] wrong = {{-1, 5}, {1, 5}, {9, 5}, {101, 5}, {LEAST, 5}, {MOST, 5}, {0, 0}, {0, 201}, {100, -1}, {10, LEAST}, {10, MOST}, {9, 0}};
    for (int[] w : wrong) due.is("pace " + w[0] + " " + w[1], m.pace(w[0], w[1]), BAD);
    m.come(0, 0);
    m.tick(10);
    due.is("PACE is unchanged", m.told(0, 5), 900);
    m.tick(5);
    due.is("WAIT is unchanged", m.sale(0, 6), 1);
    m.tick(1);
    due.is("and over", m.sale(0, 6), 0);
  }

  private static void tickEdges() {
    due.says("n (1 .. 100) TICKS go by");
    NoticeMarket m = new NoticeMarket();
    int[] wrong = {0, -1, 101, LEAST, MOST};
    for (int n : wrong) due.is("tick " + n, m.tick(n), BAD);
    due.is("unchanged", m.count(3), 0);
    due.is("the least", m.tick(1), 1);
    due.is("the greatest", m.tick(100), 101);
    for (int n : wrong) due.is("tick " + n, m.tick(n), BAD);
    due.is("unchanged then", m.count(3), 101);
  }

  private static void tickAtMost() {
    due.says("TICK (at most 10000)");
    NoticeMarket m = new NoticeMarket();
    for (int tick = 100; tick <= 9900; tick += 100) due.is("on", m.tick(100), tick);
    due.is("just up to it", m.tick(100), 10000);
    due.is("no more", m.tick(1), BAD);
    due.is("no hundred more", m.tick(100), BAD);
    due.is("the last", m.count(3), 10000);
    NoticeMarket k = new NoticeMarket();
    Setup.tickTo(k, 9950);
    due.is("51 more", k.tick(51), BAD);
    due.is("unchanged", k.count(3), 9950);
    due.is("50 more", k.tick(50), 10000);
  }

  /** Down at 10 and 20, free at 26, so up at 30; at once it would all be free and stay at 1000. */
  private static void ticksOneByOne() {
    due.says("TICKS go by, one by one");
    NoticeMarket m = Setup.market(100);
    Setup.bidder(m, 1, 10);
    m.budget(0, 10, 1000);
    m.pace(10, 25);
    m.come(0, 0);
    NoticeMarket k = Setup.market(100);
    Setup.bidder(k, 1, 10);
    k.budget(0, 10, 1000);
    k.pace(10, 25);
    k.come(0, 0);
    m.tick(30);
    for (int i = 0; i < 30; i++) k.tick(1);
    due.is("810 * 11 / 10 and 1", m.told(0, 5), 892);
    due.is("tick by tick", k.told(0, 5), 892);
    due.is("free", m.told(0, 2), 0);
  }

  private static void comeEdges() {
    due.says("A reader COMES to a page: how many SALES there are by it");
    NoticeMarket m = Setup.market(100, 100, 100, 100);
    int[][] wrong = {{-1, 0}, {100, 0}, {LEAST, 0}, {MOST, 0}, {0, -1}, {0, 1}, {0, 8}, {0, LEAST}, {0, MOST}};
    for (int[] w : wrong) due.is("come " + w[0] + " " + w[1], m.come(w[0], w[1]), BAD);
    for (int many = 0; many <= 5; many++) {
      due.is(many + " campaigns", m.come(many, 0), Math.min(many, 4));
      for (int[] w : wrong) due.is("come " + w[0] + " " + w[1], m.come(w[0], w[1]), BAD);
      Setup.house(m);
      m.tick(1);
    }
    due.is("sales", m.count(2), 1 + 2 + 3 + 4 + 4);
  }

  /** A market with this many sales, on pages 0 to 5 of four places; pages 6 and 7 have three and one. */
  private static NoticeMarket withSales(int fours, int ones) {
    NoticeMarket m = new NoticeMarket();
    for (int page = 0; page < 6; page++) m.page(Setup.sizes(100, 100, 100, 100));
    m.page(Setup.sizes(100, 100, 100));
    m.page(100);
    Setup.houses(m, 4);
    for (int i = 0; i < fours; i++) {
      m.come(i % 100, i % 6);
      if (i % 6 == 5) m.tick(1);
    }
    m.tick(1);
    for (int i = 0; i < ones; i++) {
      m.come(i, 7);
      m.tick(1);
    }
    due.is("sales", m.count(2), 4 * fours + ones);
    return m;
  }

  private static void comeFull() {
    due.says("FULL: there would be more than 1000 SALES with all PLACES sold");
    NoticeMarket just = withSales(249, 0);
    due.is("up to 1000", just.come(0, 0), 4);
    due.is("full for four", just.come(0, 1), FULL);
    due.is("full for one", just.come(0, 7), FULL);
    due.is("BAD first, reader", just.come(100, 7), BAD);
    due.is("BAD first, page", just.come(0, 8), BAD);
    due.is("1000", just.count(2), 1000);
    due.is("the last sale", just.sale(999, 3), 3);
    due.is("none behind it", just.sale(1000, 3), BAD);
    NoticeMarket over = withSales(249, 1);
    due.is("1001", over.come(0, 0), FULL);
    due.is("997 still", over.count(2), 997);
    due.is("three fit", over.come(0, 6), 3);
    due.is("none fits then", over.come(0, 7), FULL);
  }

  private static void comeFullWithNoneToGive() {
    due.says("more than 1000 SALES with all PLACES sold");
    NoticeMarket m = withSales(249, 1);
    for (int c = 1; c < 4; c++) m.stop(c, 1);
    due.is("one would be sold", m.give(0, 0, 0), 0);
    due.is("no second", m.give(0, 0, 1), NOT);
    due.is("four places count", m.come(0, 0), FULL);
    m.stop(0, 1);
    due.is("none would be sold", m.give(0, 0, 0), NOT);
    due.is("four places count still", m.come(0, 0), FULL);
    due.is("three would fit", m.come(0, 6), 0);
    due.is("best is told still", m.best(0, 0), 0);
    m.refund(996);
    due.is("one taken back is one still", m.come(0, 0), FULL);
  }

  private static void whyEdges() {
    due.says("What HINDERS a campaign now (1 .. 7) for a reader on a page; 0: nothing");
    NoticeMarket m = Setup.market(100);
    Setup.house(m);
    int[][] wrong = {{-1, 0, 0}, {1, 0, 0}, {LEAST, 0, 0}, {MOST, 0, 0}, {0, -1, 0}, {0, 100, 0}, {0, LEAST, 0}, {0, MOST, 0},
        {0, 0, -1}, {0, 0, 1}, {0, 0, LEAST}, {0, 0, MOST}};
    for (int[] w : wrong) due.is("why " + w[0] + " " + w[1] + " " + w[2], m.why(w[0], w[1], w[2]), BAD);
    due.is("nothing", m.why(0, 0, 0), 0);
    due.is("nothing for the last reader", m.why(0, 99, 0), 0);
    m.stop(0, 1);
    for (int[] w : wrong) due.is("why " + w[0] + " " + w[1] + " " + w[2], m.why(w[0], w[1], w[2]), BAD);
    due.is("stopped", m.why(0, 0, 0), 1);
  }

  private static void bestEdges() {
    due.says("The sum of WORTHS of the GIVING that there would be if a reader came to a page now, -1: BAD");
    NoticeMarket m = Setup.market(100, 100, 100, 100);
    int[][] wrong = {{-1, 0}, {100, 0}, {LEAST, 0}, {MOST, 0}, {0, -1}, {0, 1}, {0, LEAST}, {0, MOST}};
    for (int[] w : wrong) due.is("best " + w[0] + " " + w[1], m.best(w[0], w[1]), -1);
    due.is("none", m.best(0, 0), 0);
    for (int c = 0; c < 5; c++) m.campaign(10, 0, 1000);
    for (int c = 0; c < 5; c++) m.promise(c, 1000, 0);
    m.tick(1);
    due.is("the greatest sum", m.best(99, 0), 8000000000L);
    due.is("nothing was sold", m.count(2), 0);
    due.is("it would be so", m.come(99, 0), 4);
    due.is("the fifth alone", m.best(99, 0), 2000000000L);
  }

  private static void giveEdges() {
    due.says("The campaign that it would give a PLACE; NOT: none");
    for (int places = 1; places <= 4; places++) {
      NoticeMarket m = new NoticeMarket();
      int[] sizes = new int[places];
      Arrays.fill(sizes, 100);
      m.page(Setup.sizes(sizes));
      int[][] wrong = {{-1, 0, 0}, {100, 0, 0}, {0, -1, 0}, {0, 1, 0}, {0, 0, -1}, {0, 0, places}, {0, 0, LEAST}, {0, 0, MOST},
          {LEAST, 0, 0}, {0, MOST, 0}};
      for (int[] w : wrong) due.is("give " + w[0] + " " + w[1] + " " + w[2], m.give(w[0], w[1], w[2]), BAD);
      for (int place = 0; place < places; place++) {
        due.is("none", m.give(0, 0, place), NOT);
        Setup.house(m);
        due.is("one", m.give(99, 0, place), place);
      }
      for (int[] w : wrong) due.is("give " + w[0] + " " + w[1] + " " + w[2], m.give(w[0], w[1], w[2]), BAD);
    }
  }

  private static void saleEdges() {
    due.says("BAD: there is none such");
    NoticeMarket m = Setup.market(100, 100);
    Setup.houses(m, 2);
    due.is("no sales", m.sale(0, 0), BAD);
    m.come(99, 0);
    int[] noSale = {-1, 2, 999, 1000, LEAST, MOST};
    for (int i : noSale) for (int what = -1; what <= 7; what++) due.is("sale " + i + " " + what, m.sale(i, what), BAD);
    int[] noWhat = {-1, 7, LEAST, MOST};
    for (int what : noWhat) due.is("what " + what, m.sale(1, what), BAD);
    int[] want = {0, 99, 0, 1, 1, 0, 0};
    for (int what = 0; what < 7; what++) due.is("what " + what, m.sale(1, what), want[what]);
  }

  private static void saleStates() {
    due.says("6 STATE: 0 shown (and SPENT, or free), 1 waiting for a press, 2 pressed, 3 taken back");
    NoticeMarket m = Setup.market(100, 100);
    Setup.bidder(m, 0, 40);
    Setup.bidder(m, 1, 30);
    m.come(0, 0);
    due.is("shown and spent", m.sale(0, 6), 0);
    due.is("waiting", m.sale(1, 6), 1);
    m.tick(51);
    due.is("shown still", m.sale(0, 6), 0);
    due.is("free", m.sale(1, 6), 0);
    m.come(0, 0);
    m.press(2);
    m.press(3);
    due.is("pressed by showing", m.sale(2, 6), 2);
    due.is("pressed", m.sale(3, 6), 2);
    m.tick(100);
    due.is("pressed it stays", m.sale(3, 6), 2);
    for (int i = 0; i < 4; i++) {
      m.refund(i);
      due.is("taken back", m.sale(i, 6), 3);
    }
    m.tick(100);
    for (int i = 0; i < 4; i++) due.is("taken back it stays", m.sale(i, 6), 3);
  }

  private static void pressEdges() {
    due.says("A SALE that waits is pressed: 1");
    NoticeMarket m = Setup.market(100);
    Setup.bidder(m, 1, 30);
    due.is("no sales", m.press(0), BAD);
    m.come(0, 0);
    int[] wrong = {-1, 1, 1000, LEAST, MOST};
    for (int i : wrong) due.is("press " + i, m.press(i), BAD);
    due.is("at its own tick", m.press(0), 1);
    due.is("spent", m.told(0, 0), 30);
    m.tick(1);
    m.come(0, 0);
    m.tick(50);
    due.is("at the last tick", m.press(1), 1);
    due.is("spent then", m.told(0, 0), 60);
    m.come(0, 0);
    m.tick(51);
    due.is("too late", m.press(2), NOT);
    due.is("spent no more", m.told(0, 0), 60);
  }

  private static void pressByShowing() {
    due.says("it is pressed, too, from STATE 0, once, within WAIT: nothing is paid");
    int[] hows = {0, 10, 20};
    for (int how : hows) {
      NoticeMarket m = Setup.market(100);
      m.page(100);
      m.campaign(how, 0, how == 20 ? 0 : 9);
      m.budget(0, 1000, 1000);
      m.pace(0, 3);
      m.come(0, 0);
      m.come(0, 1);
      m.pace(0, 1);
      int spent = m.told(0, 0);
      m.tick(3);
      due.is("at the last tick", m.press(0), 1);
      due.is("once", m.press(0), NOT);
      due.is("presses", m.told(0, 4), 1);
      due.is("nothing is paid", m.told(0, 0), spent);
      due.is("nothing is kept aside", m.told(0, 2), 0);
      m.tick(1);
      due.is("too late", m.press(1), NOT);
      due.is("its state", m.sale(1, 6), 0);
      due.is("one press", m.told(0, 4), 1);
    }
  }

  private static void pressNot() {
    due.says("NOT: in another state, or too late");
    NoticeMarket m = Setup.market(100);
    m.page(100);
    Setup.bidder(m, 1, 30);
    m.come(0, 0);
    m.come(0, 1);
    m.press(0);
    due.is("pressed", m.press(0), NOT);
    m.refund(1);
    due.is("taken back", m.press(1), NOT);
    m.refund(0);
    due.is("pressed and taken back", m.press(0), NOT);
    due.is("no presses", m.told(0, 4), 0);
    due.is("nothing spent", m.told(0, 0), 0);
    m.come(0, 0);
    m.tick(60);
    due.is("free", m.press(2), NOT);
    due.is("no presses still", m.told(0, 4), 0);
  }

  private static void refundEdges() {
    due.says("A SALE is taken back (from any STATE but that): what comes back of SPENT");
    NoticeMarket m = Setup.market(100);
    Setup.bidder(m, 0, 1000);
    due.is("no sales", m.refund(0), BAD);
    m.come(0, 0);
    int[] wrong = {-1, 1, 1000, LEAST, MOST};
    for (int i : wrong) due.is("refund " + i, m.refund(i), BAD);
    due.is("nothing is taken back", m.count(4), 0);
    due.is("the greatest price", m.refund(0), 1000);
    due.is("from that", m.refund(0), NOT);
    due.is("once", m.count(4), 1);
    m.come(0, 0);
    Setup.tickTo(m, 10000);
    due.is("however late", m.refund(1), 1000);
    due.is("nothing is spent", m.count(5), 0);
  }

  private static void refundFromAnyState() {
    due.says("from any STATE but that");
    NoticeMarket m = Setup.market(100, 100, 100, 100);
    Setup.bidder(m, 0, 40);
    Setup.bidder(m, 1, 30);
    m.campaign(10, 0, 2);
    m.campaign(20, 0, 0);
    due.is("four sales that will be free", m.come(0, 0), 4);
    m.tick(51);
    due.is("four that are pressed", m.come(0, 0), 4);
    for (int i = 4; i < 8; i++) due.is("press " + i, m.press(i), 1);
    m.tick(1);
    due.is("four that wait or are shown", m.come(0, 0), 4);
    int[] back = {40, 0, 0, 0, 40, 30, 0, 0, 40, 0, 0, 0};
    for (int i = 0; i < 12; i++) {
      due.is("campaign of sale " + i, m.sale(i, 4), i % 4);
      due.is("back of sale " + i, m.refund(i), back[i]);
      due.is("again", m.refund(i), NOT);
    }
    for (int c = 0; c < 4; c++) {
      for (int what = 0; what < 5; what++) due.is("told " + c + " " + what, m.told(c, what), 0);
    }
    due.is("income", m.income(0), 0);
    due.is("taken back", m.count(4), 12);
  }

  private static void refundCountsForNothing() {
    due.says("It counts for nothing any more, in CAPS, CHANCES, showings");
    NoticeMarket m = Setup.market(100);
    Setup.bidder(m, 0, 10);
    m.cap(0, 2, 1000);
    for (int i = 0; i < 2; i++) {
      m.come(0, 0);
      m.press(i);
      m.tick(1);
    }
    due.is("cap", m.why(0, 0, 0), 3);
    due.is("chance", m.chance(0), 3000000 / 22);
    due.is("showings", m.told(0, 3), 2);
    due.is("presses", m.told(0, 4), 2);
    m.refund(0);
    due.is("cap then", m.why(0, 0, 0), 0);
    due.is("chance then", m.chance(0), 2000000 / 21);
    due.is("showings then", m.told(0, 3), 1);
    due.is("presses then", m.told(0, 4), 1);
    due.is("spent then", m.told(0, 0), 10);
    due.is("used of the DAY then", m.told(0, 1), 10);
  }

  private static void toldEdges() {
    due.says("9 whether STOPPED. -2000000: BAD");
    NoticeMarket m = new NoticeMarket();
    due.is("no campaigns", m.told(0, 0), BAD_TOLD);
    Setup.houses(m, 2);
    int[][] wrong = {{-1, 0}, {2, 0}, {40, 0}, {LEAST, 0}, {MOST, 0}, {0, -1}, {0, 10}, {0, LEAST}, {0, MOST}, {2, 10}};
    for (int[] w : wrong) due.is("told " + w[0] + " " + w[1], m.told(w[0], w[1]), BAD_TOLD);
    int[] want = {0, 0, 0, 0, 0, 1000, 0, 0, 0, 0};
    for (int what = 0; what < 10; what++) due.is("what " + what, m.told(1, what), want[what]);
  }

  private static void toldLeftNotBelowZero() {
    due.says("7 LEFT of the DAY, 8 LEFT in all (not below 0 either)");
    for (int pays = 0; pays < 2; pays++) {
      NoticeMarket m = Setup.market(100);
      Setup.bidder(m, pays, 20);
      m.come(0, 0);
      int[][] budgetLeft = {{21, 1}, {20, 0}, {19, 0}, {0, 0}};
      for (int[] bl : budgetLeft) {
        m.budget(0, bl[0], 1000);
        due.is("of the DAY, " + bl[0], m.told(0, 7), bl[1]);
        due.is("in all, 1000", m.told(0, 8), 980);
        m.budget(0, 1000, bl[0]);
        due.is("of the DAY, 1000", m.told(0, 7), 980);
        due.is("in all, " + bl[0], m.told(0, 8), bl[1]);
      }
    }
  }

  private static void chanceEdges() {
    due.says("CHANCE of a campaign, as parts of a million (the rest away)");
    NoticeMarket m = Setup.market(100);
    Setup.house(m);
    int[] wrong = {-1, 1, 40, LEAST, MOST};
    for (int c : wrong) due.is("chance " + c, m.chance(c), BAD);
    due.is("no showings", m.chance(0), 50000);
    for (int i = 1; i <= 60; i++) {
      m.come(0, 0);
      m.press(i - 1);
      m.tick(1);
      due.is("all pressed, " + i, m.chance(0), 1000000L * (i + 1) / (i + 20));
    }
    NoticeMarket k = Setup.market(100);
    Setup.house(k);
    for (int i = 1; i <= 60; i++) {
      k.come(0, 0);
      k.tick(1);
      due.is("none pressed, " + i, k.chance(0), 1000000L / (i + 20));
    }
  }

  private static void drawEdges() {
    due.says("DRAW. BAD");
    NoticeMarket m = new NoticeMarket();
    due.is("no campaigns", m.draw(0, 0), BAD);
    Setup.houses(m, 2);
    int[][] wrong = {{-1, 0}, {2, 0}, {LEAST, 0}, {MOST, 0}, {0, -1}, {0, 100}, {0, LEAST}, {0, MOST}};
    for (int[] w : wrong) due.is("draw " + w[0] + " " + w[1], m.draw(w[0], w[1]), BAD);
    for (int reader = 0; reader < 100; reader++) {
      due.is("reader " + reader, m.draw(1, reader), Setup.drawn(0, reader, 1));
    }
  }

  private static void incomeEdges() {
    due.says("All that was SPENT for SALES on a page");
    NoticeMarket m = Setup.market(100);
    m.page(100);
    int[] wrong = {-1, 2, 8, LEAST, MOST};
    for (int page : wrong) due.is("income " + page, m.income(page), BAD);
    Setup.bidder(m, 1, 30);
    m.come(0, 0);
    m.come(0, 1);
    due.is("kept aside is not spent", m.income(0), 0);
    m.press(0);
    due.is("pressed", m.income(0), 30);
    m.tick(51);
    due.is("free is not spent", m.income(1), 0);
    m.refund(0);
    due.is("taken back", m.income(0), 0);
    due.is("the other page", m.income(1), 0);
  }

  private static void countEdges() {
    due.says("5 all that was SPENT. BAD");
    NoticeMarket m = Setup.market(100);
    int[] wrong = {-1, 6, LEAST, MOST};
    for (int what : wrong) due.is("count " + what, m.count(what), BAD);
    Setup.bidder(m, 0, 1000);
    Setup.bidder(m, 1, 1000);
    m.page(100);
    for (int i = 0; i < 60; i++) {
      m.come(i, i % 2);
      m.tick(1);
    }
    m.refund(59);
    int[] want = {2, 2, 60, 60, 1, 59000};
    for (int what = 0; what < 6; what++) due.is("count " + what, m.count(what), want[what]);
  }

  private static void severalAnswers() {
    due.says("Answers, of several the one named first");
    NoticeMarket m = withSales(250, 0);
    for (int c = 4; c < 40; c++) m.campaign(20, 0, 0);
    due.is("page, BAD ahead of FULL", m.page(0), BAD);
    due.is("page, FULL", m.page(1), FULL);
    due.is("campaign, BAD ahead of FULL", m.campaign(20, 0, 1), BAD);
    due.is("campaign, FULL", m.campaign(20, 0, 0), FULL);
    due.is("come, BAD ahead of FULL", m.come(-1, 0), BAD);
    due.is("come, FULL", m.come(0, 0), FULL);
    due.is("promise, BAD ahead of NOT", m.promise(0, 1001, 99), BAD);
    due.is("promise, NOT", m.promise(0, 1000, 99), NOT);
    due.is("give, BAD ahead of NOT", m.give(0, 0, 4), BAD);
    for (int c = 0; c < 40; c++) m.stop(c, 1);
    due.is("give, NOT", m.give(0, 0, 3), NOT);
  }
}
