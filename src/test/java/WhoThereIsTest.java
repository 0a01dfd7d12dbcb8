/** Promises 1 to 11: a new object, and the calls that tell who there is. */
public final class WhoThereIsTest {
  private static final Due due = new Due("WhoThereIsTest");
  private static final int BAD = -1, NOT = -2, FULL = -3;
  private static final int LEAST = Integer.MIN_VALUE, MOST = Integer.MAX_VALUE;

  public static void main(String[] args) {
    promise1NewObject();
    promise2Page();
    promise3Marks();
    promise4Campaign();
    promise4Wish();
    promise5Budget();
    promise6Cap();
    promise6CapAtFirst();
    promise7Apart();
    promise8Promise();
    promise8FarDays();
    promise9Stop();
    promise10Rule();
    promise11Pace();
    promise11Throttle();
    due.end();
  }

  private static void promise1NewObject() {
    NoticeMarket m = new NoticeMarket();
    for (int what = 0; what <= 5; what++) due.is("new count(" + what + ")", m.count(what), 0);
    due.is("new rule", m.rule(0), 0);
    due.is("new marks", m.marks(99, 0), 0);
    due.is("no page", m.income(0), BAD);
    due.is("no campaign", m.chance(0), BAD);
    due.is("no sale", m.sale(0, 0), BAD);
    due.is("constant BAD", NoticeMarket.BAD, BAD);
    due.is("constant NOT", NoticeMarket.NOT, NOT);
    due.is("constant FULL", NoticeMarket.FULL, FULL);
  }

  private static void promise2Page() {
    NoticeMarket m = new NoticeMarket();
    int[] wrong = {0, -1, 101, 127, 128, 128 * 100, 128 * 100 + 101, 101 * 128 + 1, 16384 + 1,
        1 << 28, (1 << 28) + 1, ((((128 + 1) * 128 + 1) * 128 + 1) * 128 + 1), MOST, LEAST, -(128 + 1)};
    for (int sizes : wrong) due.is("page(" + sizes + ")", m.page(sizes), BAD);
    due.is("no page was made", m.count(0), 0);
    due.is("1 place", m.page(1), 0);
    due.is("1 place of 100", m.page(100), 1);
    due.is("2 places", m.page(100 * 128 + 1), 2);
    due.is("3 places", m.page((1 * 128 + 2) * 128 + 3), 3);
    due.is("4 places", m.page(((100 * 128 + 100) * 128 + 100) * 128 + 100), 4);
    for (int i = 0; i < 5; i++) {
      int places = i < 2 ? 1 : i;
      due.is("last place of " + i, m.give(0, i, places - 1), NOT);
      due.is("beyond the places of " + i, m.give(0, i, places), BAD);
    }
    for (int i = 5; i < 8; i++) due.is("page " + i, m.page(50), i);
    due.is("a ninth", m.page(50), FULL);
    due.is("BAD ahead of FULL", m.page(0), BAD);
    due.is("eight pages", m.count(0), 8);
    pageOrder();
  }

  private static void pageOrder() {
    NoticeMarket m = new NoticeMarket();
    m.page((10 * 128 + 100) * 128 + 50);
    int c = m.campaign(0, 0, 100);
    m.budget(c, 1000, 1000);
    due.is("the best worth is place 1's", m.best(0, 0), 10000L * 100 * 100);
    due.is("place 1", m.give(0, 0, 1), 0);
    due.is("place 0", m.give(0, 0, 0), NOT);
    due.is("place 2", m.give(0, 0, 2), NOT);
  }

  private static void promise3Marks() {
    NoticeMarket m = new NoticeMarket();
    due.is("marks at first", m.marks(0, 4095), 0);
    due.is("marks then", m.marks(0, 1), 4095);
    due.is("another reader's", m.marks(99, 2), 0);
    due.is("again", m.marks(0, 0), 1);
    due.is("reader -1", m.marks(-1, 0), BAD);
    due.is("reader 100", m.marks(100, 0), BAD);
    due.is("marks -1", m.marks(99, -1), BAD);
    due.is("marks 4096", m.marks(99, 4096), BAD);
    due.is("marks LEAST", m.marks(99, LEAST), BAD);
    due.is("unchanged", m.marks(99, 0), 2);
  }

  private static void promise4Campaign() {
    NoticeMarket m = new NoticeMarket();
    int[] hows = {-1, 2, 5, 9, 11, 12, 19, 21, 22, 30, -10, MOST, LEAST};
    for (int how : hows) {
      due.is("campaign how " + how, m.campaign(how, 0, 5), BAD);
      due.is("campaign how " + how + ", bid 0", m.campaign(how, 0, 0), BAD);
    }
    int[][] wrong = {{0, 0, 0}, {0, 0, 1001}, {0, 0, -1}, {1, 0, 0}, {1, 0, 1001}, {10, 0, 0}, {10, 0, 1001},
        {20, 0, 1}, {20, 0, -1}, {0, -1, 5}, {0, 4096 * 4096, 5}, {0, 4097, 5}, {0, 4096 * 4095 + 1, 5},
        {0, MOST, 5}, {0, LEAST, 5}, {0, 4096 * 6 + 2, 5}};
    for (int[] w : wrong) due.is("campaign " + w[0] + " " + w[1] + " " + w[2], m.campaign(w[0], w[1], w[2]), BAD);
    due.is("none was made", m.count(1), 0);
    due.is("by showing", m.campaign(0, 0, 1), 0);
    due.is("by press", m.campaign(1, 0, 1000), 1);
    due.is("promised", m.campaign(10, 0, 1000), 2);
    due.is("house", m.campaign(20, 0, 0), 3);
    due.is("all must be there", m.campaign(0, 4096 * 4095, 5), 4);
    due.is("none may be there", m.campaign(0, 4095, 5), 5);
    due.is("some of both", m.campaign(0, 4096 * 4000 + 95, 5), 6);
    for (int c = 0; c < 7; c++) newCampaign(m, c);
    for (int c = 7; c < 40; c++) due.is("campaign " + c, m.campaign(0, 0, 7), c);
    due.is("a forty-first", m.campaign(0, 0, 7), FULL);
    due.is("BAD ahead of FULL", m.campaign(0, 0, 0), BAD);
    due.is("forty campaigns", m.count(1), 40);
  }

  private static void newCampaign(NoticeMarket m, int c) {
    int[] first = {0, 0, 0, 0, 0, 1000, 0, 0, 0, 0};
    for (int what = 0; what < 10; what++) due.is("new told(" + c + ", " + what + ")", m.told(c, what), first[what]);
    due.is("new chance", m.chance(c), 50000);
  }

  private static void promise4Wish() {
    NoticeMarket m = new NoticeMarket();
    m.page(100);
    m.campaign(20, 4096 * 5 + 2, 0);
    int[] good = {5, 5 + 8, 4095 - 2};
    int[] wrong = {0, 1, 4, 7, 2, 4095};
    for (int marks : good) {
      m.marks(3, marks);
      due.is("wish, marks " + marks, m.why(0, 3, 0), 0);
    }
    for (int marks : wrong) {
      m.marks(3, marks);
      due.is("wish, marks " + marks, m.why(0, 3, 0), 2);
    }
  }

  private static void promise5Budget() {
    NoticeMarket m = new NoticeMarket();
    m.page(100);
    due.is("no campaign yet", m.budget(0, 1, 1), BAD);
    m.campaign(0, 0, 10);
    due.is("without a budget", m.why(0, 0, 0), 4);
    due.is("budget", m.budget(0, 10, 10), 1);
    due.is("just enough", m.why(0, 0, 0), 0);
    m.budget(0, 9, 10);
    due.is("too little a day", m.why(0, 0, 0), 4);
    m.budget(0, 10, 9);
    due.is("too little in all", m.why(0, 0, 0), 4);
    due.is("most", m.budget(0, 1000000, 1000000), 1);
    due.is("day's left", m.told(0, 7), 1000000);
    due.is("left in all", m.told(0, 8), 1000000);
    int[][] wrong = {{0, -1, 5}, {0, 5, -1}, {0, 1000001, 5}, {0, 5, 1000001}, {1, 5, 5}, {-1, 5, 5}, {0, LEAST, MOST}};
    for (int[] w : wrong) due.is("budget " + w[0] + " " + w[1] + " " + w[2], m.budget(w[0], w[1], w[2]), BAD);
    due.is("unchanged", m.told(0, 7), 1000000);
    due.is("none", m.budget(0, 0, 0), 1);
    due.is("none left", m.told(0, 8), 0);
  }

  private static void promise6Cap() {
    NoticeMarket m = new NoticeMarket();
    m.page(100);
    due.is("no campaign yet", m.cap(0, 1, 1), BAD);
    m.campaign(20, 0, 0);
    int[][] wrong = {{0, 0, 5}, {0, 10, 5}, {0, 5, 0}, {0, 5, 1001}, {1, 5, 5}, {-1, 5, 5}, {0, -1, 5}, {0, 5, LEAST}};
    for (int[] w : wrong) due.is("cap " + w[0] + " " + w[1] + " " + w[2], m.cap(w[0], w[1], w[2]), BAD);
    due.is("cap", m.cap(0, 1, 3), 1);
    m.come(7, 0);
    due.is("CAP ahead of itself", m.why(0, 7, 0), 3);
    due.is("another reader", m.why(0, 8, 0), 7);
    m.tick(2);
    due.is("last tick of SPAN", m.why(0, 7, 0), 3);
    m.tick(1);
    due.is("beyond SPAN", m.why(0, 7, 0), 0);
    due.is("most", m.cap(0, 9, 1000), 1);
    due.is("nine", m.why(0, 7, 0), 0);
    due.is("least", m.cap(0, 1, 1), 1);
    due.is("one a tick", m.why(0, 7, 0), 0);
    m.cap(0, 1, 4);
    due.is("a SPAN that reaches back", m.why(0, 7, 0), 3);
  }

  /** Eight showings a tick are the most there can be, so a CAP of 9 hinders only a longer SPAN. */
  private static void promise6CapAtFirst() {
    NoticeMarket m = new NoticeMarket();
    for (int page = 0; page < 8; page++) m.page(100);
    m.campaign(20, 0, 0);
    for (int i = 0; i < 3; i++) {
      for (int page = 0; page < 8; page++) due.is("at first no cap is reached", m.come(4, page), 1);
      m.tick(1);
    }
    m.cap(0, 9, 2);
    due.is("8 of the tick ahead", m.come(4, 0), 1);
    due.is("9", m.why(0, 4, 1), 3);
    due.is("not of another reader", m.why(0, 5, 1), 0);
  }

  private static void promise7Apart() {
    NoticeMarket m = new NoticeMarket();
    m.page(100 * 128 + 100);
    for (int c = 0; c < 3; c++) m.campaign(20, 0, 0);
    due.is("at first", m.apart(0, 1, 1), 0);
    due.is("of either", m.apart(1, 0, 1), 1);
    due.is("others are not", m.apart(0, 2, 0), 0);
    due.is("given 0", m.give(0, 0, 0), 0);
    due.is("given 2 beside it", m.give(0, 0, 1), 2);
    m.apart(0, 2, 1);
    due.is("1 and 2 fill both", m.give(0, 0, 0), 1);
    due.is("and 2", m.give(0, 0, 1), 2);
    int[][] wrong = {{0, 0, 1}, {2, 2, 0}, {0, 3, 1}, {3, 0, 1}, {-1, 0, 1}, {0, -1, 1}, {0, 1, 2}, {0, 1, -1}};
    for (int[] w : wrong) due.is("apart " + w[0] + " " + w[1] + " " + w[2], m.apart(w[0], w[1], w[2]), BAD);
    due.is("taken away", m.apart(1, 0, 0), 1);
    due.is("taken away of both", m.apart(0, 1, 0), 0);
    due.is("the other stays", m.apart(2, 0, 1), 1);
  }

  private static void promise8Promise() {
    NoticeMarket m = new NoticeMarket();
    m.page(100);
    m.campaign(0, 0, 5);
    m.campaign(10, 0, 5);
    m.campaign(20, 0, 0);
    due.is("not promised", m.promise(0, 5, 0), NOT);
    due.is("house", m.promise(2, 5, 0), NOT);
    due.is("BAD ahead of NOT", m.promise(0, 0, 0), BAD);
    due.is("never behind until told", m.told(1, 6), 0);
    int[][] wrong = {{1, 0, 0}, {1, 1001, 0}, {1, -1, 0}, {3, 5, 0}, {-1, 5, 0}, {1, 5, -1}, {1, 5, LEAST}};
    for (int[] w : wrong) due.is("promise " + w[0] + " " + w[1] + " " + w[2], m.promise(w[0], w[1], w[2]), BAD);
    m.tick(100);
    due.is("a past day", m.promise(1, 5, 0), BAD);
    due.is("a past day ahead of NOT", m.promise(0, 5, 0), BAD);
    m.tick(50);
    due.is("this day", m.promise(1, 10, 1), 1);
    due.is("at once", m.told(1, 6), 0);
    m.tick(4);
    due.is("10 * 4 / 50 is 0", m.told(1, 6), 0);
    m.tick(1);
    due.is("10 * 5 / 50 is 1", m.told(1, 6), 1);
    due.is("worth of one behind", m.best(0, 0), 10000L * 5 * 100 + 1000000000L);
    m.come(0, 0);
    due.is("shown once", m.told(1, 6), 0);
    due.is("worth of one that is not", m.best(0, 0), 0);
    m.tick(5);
    due.is("10 * 10 / 50 is 2", m.told(1, 6), 1);
    due.is("told anew", m.promise(1, 1, 1), 1);
    m.tick(100);
    due.is("the day is over, one was due", m.told(1, 6), 0);
    m.refund(0);
    due.is("taken back", m.told(1, 6), 1);
    due.is("most", m.promise(1, 1000, 100), 1);
    due.is("told at this tick", m.told(1, 6), 0);
  }

  private static void promise8FarDays() {
    NoticeMarket m = new NoticeMarket();
    m.campaign(10, 0, 5);
    due.is("the farthest day", m.promise(0, 1000, MOST), 1);
    for (int i = 0; i < 100; i++) m.tick(100);
    due.is("hardly begun", m.told(0, 6), 0);
    due.is("day 100 at TICK 10000", m.promise(0, 1000, 100), 1);
    due.is("day 99 is past", m.promise(0, 1000, 99), BAD);
  }

  private static void promise9Stop() {
    NoticeMarket m = new NoticeMarket();
    m.page(100);
    due.is("no campaign yet", m.stop(0, 1), BAD);
    m.campaign(20, 4096, 0);
    due.is("at first", m.stop(0, 1), 0);
    due.is("told", m.told(0, 9), 1);
    due.is("ahead of the wish", m.why(0, 0, 0), 1);
    due.is("none given", m.come(0, 0), 0);
    due.is("is 2", m.stop(0, 2), BAD);
    due.is("is -1", m.stop(0, -1), BAD);
    due.is("campaign 1", m.stop(1, 0), BAD);
    due.is("campaign -1", m.stop(-1, 0), BAD);
    due.is("again", m.stop(0, 1), 1);
    due.is("no more", m.stop(0, 0), 1);
    due.is("told no more", m.told(0, 9), 0);
    due.is("the wish now", m.why(0, 0, 0), 2);
  }

  private static void promise10Rule() {
    NoticeMarket m = new NoticeMarket();
    due.is("at first", m.rule(1), 0);
    due.is("rule 2", m.rule(2), BAD);
    due.is("rule -1", m.rule(-1), BAD);
    due.is("then", m.rule(0), 1);
    due.is("again", m.rule(0), 0);
    m.page(50);
    m.campaign(0, 0, 1);
    m.budget(0, 9, 9);
    m.come(0, 0);
    due.is("FIRST is 1 at least", m.sale(0, 5), 1);
    m.rule(1);
    m.tick(1);
    m.come(0, 0);
    due.is("LOSS may be 0", m.sale(1, 5), 0);
  }

  private static void promise11Pace() {
    NoticeMarket m = new NoticeMarket();
    int[][] wrong = {{-1, 5}, {1, 5}, {9, 5}, {101, 5}, {0, 0}, {0, 201}, {10, -1}, {LEAST, 5}, {0, MOST}};
    for (int[] w : wrong) due.is("pace " + w[0] + " " + w[1], m.pace(w[0], w[1]), BAD);
    due.is("least", m.pace(10, 1), 1);
    due.is("most", m.pace(100, 200), 1);
    due.is("never", m.pace(0, 2), 1);
    m.page(100);
    m.campaign(1, 0, 10);
    m.budget(0, 100, 100);
    m.come(0, 0);
    m.pace(0, 200);
    m.tick(2);
    due.is("by then", m.sale(0, 6), 1);
    m.tick(1);
    due.is("WAIT as it was when it was sold", m.sale(0, 6), 0);
  }

  private static void promise11Throttle() {
    NoticeMarket m = new NoticeMarket();
    m.page(100);
    m.campaign(0, 0, 50);
    m.campaign(10, 0, 1);
    m.budget(0, 100, 10000);
    m.pace(30, 50);
    m.come(0, 0);
    m.tick(29);
    due.is("not yet", m.told(0, 5), 1000);
    m.tick(1);
    due.is("50 * 100 is more than 100 * 30", m.told(0, 5), 900);
    m.tick(30);
    due.is("50 * 100 is less than 100 * 60: 991", m.told(0, 5), 991);
    m.budget(0, 0, 0);
    m.tick(30);
    due.is("more than a budget of 0", m.told(0, 5), 891);
    m.pace(10, 50);
    m.tick(10);
    due.is("tick 0 of a DAY: it stays", m.told(0, 5), 891);
    m.tick(10);
    due.is("0 of 0: it stays", m.told(0, 5), 891);
    m.budget(0, 1, 1);
    m.tick(20);
    due.is("at most 1000", m.told(0, 5), 1000);
    due.is("PROMISED has no throttle", m.told(1, 5), 1000);
    leastThrottle();
  }

  /** A PACE that is told anew for each tick sets the THROTTLE at each. */
  private static void leastThrottle() {
    NoticeMarket m = new NoticeMarket();
    m.page(100);
    m.campaign(0, 0, 1);
    m.budget(0, 1, 100);
    m.come(0, 0);
    m.budget(0, 0, 100);
    m.tick(9);
    int throttle = 1000;
    for (int tick = 10; tick < 100; tick++) {
      m.pace(tick, 50);
      m.tick(1);
      throttle = Math.max(1, throttle * 9 / 10);
      due.is("throttle at " + tick, m.told(0, 5), throttle);
    }
    due.is("1 at least", throttle, 1);
  }
}
