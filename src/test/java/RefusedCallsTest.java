import java.util.ArrayList;
import java.util.List;

/**
 * What is answered with BAD, NOT or FULL changes nothing, and a look changes nothing: of two markets
 * with the same calls one also gets such a call, and all that they answer afterwards is the same.
 */
public final class RefusedCallsTest {
  private static final Due due = new Due("RefusedCallsTest");
  private static final int BAD = -1, NOT = -2, FULL = -3, BAD_TOLD = -2000000;
  private static final int LEAST = Setup.LEAST, MOST = Setup.MOST;

  /** The calls that change nothing are tried after so many steps or more, when there is something to change. */
  private static final int STEPS_AHEAD = 24;

  private interface Call {
    long on(NoticeMarket m);
  }

  private static final class Refused {
    final String name;
    final long want;
    final Call call;

    Refused(String name, long want, Call call) {
      this.name = name;
      this.want = want;
      this.call = call;
    }
  }

  public static void main(String[] args) {
    due.says("What is answered so changes nothing");
    List<Refused> refused = new ArrayList<>();
    addWrongNumbers(refused);
    addWrongOthers(refused);
    addNot(refused);
    for (Refused r : refused) {
      for (int at = STEPS_AHEAD; at <= steps().size(); at++) changesNothing(r, at);
    }
    List<Refused> full = new ArrayList<>();
    addFull(full);
    for (Refused r : full) changesNothingWhenFull(r);
    due.says("there would be if a reader came to a page now");
    for (Call look : looks()) {
      for (int at = STEPS_AHEAD; at <= steps().size(); at++) looksChangeNothing(look, at);
    }
    due.end();
  }

  /** A market's life, with throttles set anew and a sale of each state: shown, free, waiting, pressed, taken back. */
  private static List<Call> steps() {
    List<Call> steps = new ArrayList<>();
    steps.add(m -> m.page(Setup.sizes(100, 80, 60, 40)));
    steps.add(m -> m.page(Setup.sizes(50)));
    steps.add(m -> m.campaign(0, 0, 40));
    steps.add(m -> m.campaign(1, 0, 700));
    steps.add(m -> m.campaign(10, 0, 20));
    steps.add(m -> m.campaign(20, 4096 * 2 + 1, 0));
    steps.add(m -> m.campaign(1, 0, 90));
    steps.add(m -> m.budget(0, 110, 900));
    steps.add(m -> m.budget(1, 2000, 5000));
    steps.add(m -> m.budget(4, 100, 5000));
    steps.add(m -> m.marks(7, 2));
    steps.add(m -> m.cap(0, 3, 40));
    steps.add(m -> m.promise(2, 30, 0));
    steps.add(m -> m.pace(10, 12));
    steps.add(m -> m.rule(1));
    steps.add(m -> m.come(7, 0));
    steps.add(m -> m.refund(1));
    steps.add(m -> m.tick(3));
    steps.add(m -> m.come(8, 0));
    steps.add(m -> m.press(5));
    steps.add(m -> m.tick(11));
    steps.add(m -> m.apart(0, 4, 1));
    steps.add(m -> m.come(7, 0));
    steps.add(m -> m.press(2));
    steps.add(m -> m.come(9, 1));
    steps.add(m -> m.tick(1));
    steps.add(m -> m.come(7, 0));
    return steps;
  }

  private static void addWrongNumbers(List<Refused> to) {
    int[] sizes = {0, -1, 101, 128, LEAST, MOST};
    for (int s : sizes) to.add(new Refused("page " + s, BAD, m -> m.page(s)));
    int[][] marks = {{-1, 0}, {100, 0}, {7, -1}, {7, 4096}};
    for (int[] w : marks) to.add(new Refused("marks " + w[0] + " " + w[1], BAD, m -> m.marks(w[0], w[1])));
    int[][] campaigns = {{2, 0, 5}, {11, 0, 5}, {0, 4097, 5}, {0, -1, 5}, {0, 0, 0}, {0, 0, 1001}, {20, 0, 1}};
    for (int[] w : campaigns) to.add(new Refused("campaign " + w[0], BAD, m -> m.campaign(w[0], w[1], w[2])));
    int[][] budgets = {{-1, 0, 0}, {5, 0, 0}, {0, -1, 0}, {0, 0, -1}, {0, 1000001, 0}, {0, 0, 1000001}};
    for (int[] w : budgets) to.add(new Refused("budget " + w[0] + " " + w[1], BAD, m -> m.budget(w[0], w[1], w[2])));
    int[][] caps = {{-1, 1, 1}, {5, 1, 1}, {0, 0, 1}, {0, 10, 1}, {0, 1, 0}, {0, 1, 1001}};
    for (int[] w : caps) to.add(new Refused("cap " + w[0] + " " + w[1], BAD, m -> m.cap(w[0], w[1], w[2])));
    int[][] aparts = {{0, 0, 1}, {-1, 0, 1}, {0, 5, 1}, {5, 0, 1}, {0, 1, 2}, {0, 4, -1}};
    for (int[] w : aparts) to.add(new Refused("apart " + w[0] + " " + w[1], BAD, m -> m.apart(w[0], w[1], w[2])));
    int[][] promises = {{-1, 1, 0}, {5, 1, 0}, {2, 0, 0}, {2, 1001, 0}, {2, 1, -1}, {2, 1, LEAST}, {0, 0, 0}};
    for (int[] w : promises) to.add(new Refused("promise " + w[0] + " " + w[1], BAD, m -> m.promise(w[0], w[1], w[2])));
    int[][] stops = {{-1, 1}, {5, 1}, {0, 2}, {0, -1}};
    for (int[] w : stops) to.add(new Refused("stop " + w[0] + " " + w[1], BAD, m -> m.stop(w[0], w[1])));
  }

  private static void addWrongOthers(List<Refused> to) {
    int[] rules = {-1, 2, LEAST};
    for (int r : rules) to.add(new Refused("rule " + r, BAD, m -> m.rule(r)));
    int[][] paces = {{9, 50}, {101, 50}, {-1, 50}, {0, 0}, {0, 201}, {50, 0}, {50, 201}};
    for (int[] w : paces) to.add(new Refused("pace " + w[0] + " " + w[1], BAD, m -> m.pace(w[0], w[1])));
    int[] ticks = {0, -1, 101, LEAST, MOST};
    for (int n : ticks) to.add(new Refused("tick " + n, BAD, m -> m.tick(n)));
    int[][] comings = {{-1, 0}, {100, 0}, {7, -1}, {7, 2}};
    for (int[] w : comings) {
      to.add(new Refused("come " + w[0] + " " + w[1], BAD, m -> m.come(w[0], w[1])));
      to.add(new Refused("best " + w[0] + " " + w[1], BAD, m -> m.best(w[0], w[1])));
      to.add(new Refused("give " + w[0] + " " + w[1], BAD, m -> m.give(w[0], w[1], 0)));
      to.add(new Refused("why " + w[0] + " " + w[1], BAD, m -> m.why(0, w[0], w[1])));
    }
    int[] sales = {-1, 500, LEAST, MOST};
    for (int i : sales) {
      to.add(new Refused("sale " + i, BAD, m -> m.sale(i, 0)));
      to.add(new Refused("press " + i, BAD, m -> m.press(i)));
      to.add(new Refused("refund " + i, BAD, m -> m.refund(i)));
    }
    to.add(new Refused("told", BAD_TOLD, m -> m.told(0, 10)));
    to.add(new Refused("chance", BAD, m -> m.chance(5)));
    to.add(new Refused("draw", BAD, m -> m.draw(5, 0)));
    to.add(new Refused("income", BAD, m -> m.income(2)));
    to.add(new Refused("count", BAD, m -> m.count(6)));
  }

  private static void addNot(List<Refused> to) {
    int[] unpromised = {0, 1, 3, 4};
    for (int c : unpromised) to.add(new Refused("promise of " + c, NOT, m -> m.promise(c, 1, 3)));
    to.add(new Refused("press of one that is too late", NOT, m -> m.press(0)));
    to.add(new Refused("press of one taken back", NOT, m -> m.press(1)));
    to.add(new Refused("press of one that is pressed", NOT, m -> m.press(5)));
    to.add(new Refused("refund of one taken back", NOT, m -> m.refund(1)));
  }

  private static List<Call> looks() {
    List<Call> looks = new ArrayList<>();
    for (int page = 0; page < 2; page++) {
      int p = page;
      for (int reader : new int[] {0, 7, 8, 99}) {
        looks.add(m -> m.best(reader, p));
        looks.add(m -> m.give(reader, p, 0));
        looks.add(m -> m.why(0, reader, p));
        looks.add(m -> m.draw(4, reader));
      }
      looks.add(m -> m.income(p));
    }
    for (int what = 0; what < 10; what++) {
      int w = what;
      looks.add(m -> m.told(1, w));
      looks.add(m -> m.sale(0, w));
      looks.add(m -> m.count(w));
    }
    looks.add(m -> m.chance(1));
    return looks;
  }

  private static void changesNothing(Refused refused, int at) {
    NoticeMarket plain = new NoticeMarket();
    NoticeMarket asked = new NoticeMarket();
    play(plain, asked, 0, at);
    due.is(refused.name + " after " + at, refused.call.on(asked), refused.want);
    play(plain, asked, at, steps().size());
    same(refused.name + " after " + at, plain, asked);
  }

  private static void looksChangeNothing(Call look, int at) {
    NoticeMarket plain = new NoticeMarket();
    NoticeMarket asked = new NoticeMarket();
    play(plain, asked, 0, at);
    long first = look.on(asked);
    due.is("a look after " + at, look.on(asked), first);
    play(plain, asked, at, steps().size());
    same("a look after " + at, plain, asked);
  }

  private static void play(NoticeMarket plain, NoticeMarket asked, int from, int to) {
    List<Call> steps = steps();
    for (int i = from; i < to; i++) due.is("step " + i, steps.get(i).on(asked), steps.get(i).on(plain));
  }

  /** All that can be asked, then what is told by its change (MARKS, RULE, APART), then PACE and WAIT by time. */
  private static void same(String name, NoticeMarket plain, NoticeMarket asked) {
    isSame(name + ": told", plain, asked);
    for (int c = 1; c < plain.count(1); c++) due.is(name + ": apart", asked.apart(0, c, 0), plain.apart(0, c, 0));
    due.is(name + ": marks", asked.marks(7, 3), plain.marks(7, 3));
    due.is(name + ": come", asked.come(11, 0), plain.come(11, 0));
    due.is(name + ": rule", asked.rule(0), plain.rule(0));
    due.is(name + ": come by FIRST", asked.come(12, 1), plain.come(12, 1));
    for (int i = 0; i < 3; i++) {
      due.is(name + ": tick", asked.tick(7), plain.tick(7));
      due.is(name + ": come", asked.come(13 + i, 0), plain.come(13 + i, 0));
      isSame(name + ": at " + plain.count(3), plain, asked);
    }
  }

  /** All in one number each, so that few calls of Due are needed. */
  private static void isSame(String name, NoticeMarket plain, NoticeMarket asked) {
    due.is(name, all(asked), all(plain));
  }

  private static long all(NoticeMarket m) {
    long sum = 0;
    for (int what = 0; what < 6; what++) sum = sum * 31 + m.count(what);
    for (int p = 0; p < m.count(0); p++) sum = sum * 31 + m.income(p);
    for (int c = 0; c < Math.min(5, m.count(1)); c++) {
      for (int what = 0; what < 10; what++) sum = sum * 31 + m.told(c, what);
      sum = sum * 31 + m.chance(c);
      sum = sum * 31 + m.why(c, 7, 0);
    }
    int sales = m.count(2);
    for (int i = Math.max(0, sales - 6); i < sales; i++) {
      for (int what = 4; what < 7; what++) sum = sum * 31 + m.sale(i, what);
    }
    return sum * 31 + m.best(9, 0);
  }

  private static void addFull(List<Refused> to) {
    to.add(new Refused("a ninth page", FULL, m -> m.page(100)));
    to.add(new Refused("a page that is BAD", BAD, m -> m.page(0)));
    to.add(new Refused("a forty-first campaign", FULL, m -> m.campaign(20, 0, 0)));
    to.add(new Refused("a campaign that is BAD", BAD, m -> m.campaign(20, 0, 1)));
    for (int page = 0; page < 8; page++) {
      int p = page;
      to.add(new Refused("a coming beyond 1000 sales", FULL, m -> m.come(0, p)));
    }
    to.add(new Refused("a tick beyond 10000", BAD, m -> m.tick(50)));
  }

  /** 8 pages, 40 campaigns, 1000 sales, and TICK so late that 50 are too many. */
  private static NoticeMarket fullMarket() {
    NoticeMarket m = new NoticeMarket();
    for (int page = 0; page < 8; page++) m.page(Setup.sizes(100, 100, 100, 100));
    for (int c = 0; c < 40; c++) Setup.bidder(m, c % 2, 10);
    Setup.tickTo(m, 9930);
    for (int i = 0; i < 250; i++) {
      m.come(i % 100, i % 8);
      if (i % 8 == 7) m.tick(1);
    }
    return m;
  }

  private static void changesNothingWhenFull(Refused refused) {
    NoticeMarket plain = fullMarket();
    NoticeMarket asked = fullMarket();
    due.is("1000 sales", asked.count(2), 1000);
    due.is(refused.name, refused.call.on(asked), refused.want);
    due.is(refused.name + ": tick", asked.tick(5), plain.tick(5));
    for (int what = 0; what < 6; what++) due.is(refused.name + ": count", asked.count(what), plain.count(what));
    for (int c = 0; c < 4; c++) {
      for (int what = 0; what < 5; what++) due.is(refused.name + ": told", asked.told(c, what), plain.told(c, what));
    }
    due.is(refused.name + ": best", asked.best(0, 0), plain.best(0, 0));
    due.is(refused.name + ": the last sale", asked.sale(999, 6), plain.sale(999, 6));
    due.is(refused.name + ": none behind it", asked.sale(1000, 6), BAD);
  }
}
