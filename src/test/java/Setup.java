/** What several tests need to bring a market into the state that they ask about. */
final class Setup {
  static final int LEAST = Integer.MIN_VALUE, MOST = Integer.MAX_VALUE, PLENTY = 1000000;

  private Setup() {
  }

  /** Sizes as the call page takes them, place 0's first. */
  static int sizes(int... each) {
    int sizes = 0;
    for (int size : each) sizes = sizes * 128 + size;
    return sizes;
  }

  /** A market with one page of these sizes. */
  static NoticeMarket market(int... each) {
    NoticeMarket m = new NoticeMarket();
    m.page(sizes(each));
    return m;
  }

  /** A campaign of SORT BID, by showing (0) or by press (1), with budgets that last. */
  static int bidder(NoticeMarket m, int pays, int bid) {
    int c = m.campaign(pays, 0, bid);
    m.budget(c, PLENTY, PLENTY);
    return c;
  }

  static int house(NoticeMarket m) {
    return m.campaign(20, 0, 0);
  }

  static void houses(NoticeMarket m, int many) {
    for (int i = 0; i < many; i++) house(m);
  }

  /** Ticks until TICK is this one. */
  static void tickTo(NoticeMarket m, int tick) {
    for (int at = m.count(3); at < tick; at = m.tick(Math.min(100, tick - at))) {
      if (at < 0) throw new IllegalStateException("no way to tick " + tick);
    }
  }

  /** DRAW by longs, so that it is told in another way than the class does. */
  static int drawn(long tick, long reader, long c) {
    long h = tick * 40503 + reader * 9973 + c * 7919;
    long mixed = (h ^ (h >> 7)) * 668265263L & 0xFFFFFFFFL;
    return (int) ((mixed >> 16) % 1000);
  }

  /** The first tick from this one on at which some reader's DRAW for a campaign is this one. */
  static int tickOfDraw(int draw, int c, int from) {
    for (int tick = from; tick < 10000; tick++) {
      if (readerOfDraw(draw, c, tick) >= 0) return tick;
    }
    throw new IllegalStateException("no tick has the draw " + draw);
  }

  /** The first reader whose DRAW for a campaign at a tick is this one, -1 if there is none. */
  static int readerOfDraw(int draw, int c, int tick) {
    for (int reader = 0; reader < 100; reader++) {
      if (drawn(tick, reader, c) == draw) return reader;
    }
    return -1;
  }
}
