import java.util.ArrayList;
import java.util.HashSet;
import java.util.List;
import java.util.Set;

/**
 * The document's words told as plainly as can be: nothing is counted ahead, every answer goes through
 * all sales, and the best giving is sought among all givings. Only for comparing with NoticeMarket.
 */
final class PlainMarket {
  static final int BAD = -1, NOT = -2, FULL = -3;

  private static final class Camp {
    int sort, pays, must, mustNot, bid, day, all, cap = 9, span = 1, throttle = 1000, stopped;
    int many = 0, promisedDay, promisedTick;
    final Set<Integer> apart = new HashSet<>();
  }

  private static final class Sold {
    int tick, reader, page, place, camp, price, wait;
    boolean byPress, back;
    int pressedTick = -1;
  }

  private final List<int[]> pages = new ArrayList<>();
  private final List<Camp> camps = new ArrayList<>();
  private final List<Sold> sales = new ArrayList<>();
  private final int[] marks = new int[100];
  private int tick, rule, pace, wait = 50;

  private boolean noPage(int p) { return p < 0 || p >= pages.size(); }
  private boolean noCamp(int c) { return c < 0 || c >= camps.size(); }
  private boolean noReader(int r) { return r < 0 || r > 99; }
  private boolean noSale(int s) { return s < 0 || s >= sales.size(); }
  private static boolean out(int n, int least, int most) { return n < least || n > most; }

  int page(int sizes) {
    if (sizes <= 0) return BAD;
    List<Integer> digits = new ArrayList<>();
    for (long rest = sizes; rest > 0; rest /= 128) digits.add(0, (int) (rest % 128));
    if (digits.size() > 4) return BAD;
    for (int d : digits) if (d < 1 || d > 100) return BAD;
    if (pages.size() == 8) return FULL;
    int[] page = new int[digits.size()];
    for (int i = 0; i < page.length; i++) page[i] = digits.get(i);
    pages.add(page);
    return pages.size() - 1;
  }

  int marks(int reader, int m) {
    if (noReader(reader) || out(m, 0, 4095)) return BAD;
    int was = marks[reader];
    marks[reader] = m;
    return was;
  }

  int campaign(int how, int wish, int bid) {
    if (how < 0) return BAD;
    Camp c = new Camp();
    c.sort = how / 10;
    c.pays = how % 10;
    if (c.sort > 2 || c.pays > 1 || c.sort != 0 && c.pays != 0) return BAD;
    if (out(wish, 0, (1 << 24) - 1)) return BAD;
    c.must = wish >> 12;
    c.mustNot = wish & 4095;
    if ((c.must & c.mustNot) != 0) return BAD;
    if (c.sort == 2 ? bid != 0 : out(bid, 1, 1000)) return BAD;
    c.bid = bid;
    if (camps.size() == 40) return FULL;
    camps.add(c);
    return camps.size() - 1;
  }

  int budget(int c, int day, int all) {
    if (noCamp(c) || out(day, 0, 1000000) || out(all, 0, 1000000)) return BAD;
    camps.get(c).day = day;
    camps.get(c).all = all;
    return 1;
  }

  int cap(int c, int cap, int span) {
    if (noCamp(c) || out(cap, 1, 9) || out(span, 1, 1000)) return BAD;
    camps.get(c).cap = cap;
    camps.get(c).span = span;
    return 1;
  }

  int apart(int a, int b, int is) {
    if (noCamp(a) || noCamp(b) || a == b || out(is, 0, 1)) return BAD;
    int was = camps.get(a).apart.contains(b) ? 1 : 0;
    if (is == 1) {
      camps.get(a).apart.add(b);
      camps.get(b).apart.add(a);
    } else {
      camps.get(a).apart.remove(b);
      camps.get(b).apart.remove(a);
    }
    return was;
  }

  int promise(int c, int many, int day) {
    if (noCamp(c) || out(many, 1, 1000) || day < tick / 100) return BAD;
    Camp x = camps.get(c);
    if (x.sort != 1) return NOT;
    x.many = many;
    x.promisedDay = day;
    x.promisedTick = tick;
    return 1;
  }

  int stop(int c, int is) {
    if (noCamp(c) || out(is, 0, 1)) return BAD;
    int was = camps.get(c).stopped;
    camps.get(c).stopped = is;
    return was;
  }

  int rule(int r) {
    if (out(r, 0, 1)) return BAD;
    int was = rule;
    rule = r;
    return was;
  }

  int pace(int n, int w) {
    if (n != 0 && out(n, 10, 100) || out(w, 1, 200)) return BAD;
    pace = n;
    wait = w;
    return 1;
  }

  int tick(int n) {
    if (out(n, 1, 100) || tick + n > 10000) return BAD;
    for (int i = 0; i < n; i++) {
      tick++;
      if (pace != 0 && tick % pace == 0) for (int c = 0; c < camps.size(); c++) setThrottle(c);
    }
    return tick;
  }

  private void setThrottle(int c) {
    Camp x = camps.get(c);
    int t = tick % 100;
    if (x.sort != 0 || t == 0) return;
    long p = usedToday(c);
    if (p * 100 > (long) x.day * t) x.throttle = Math.max(1, x.throttle * 9 / 10);
    else if (p * 100 < (long) x.day * t) x.throttle = Math.min(1000, x.throttle * 11 / 10 + 1);
  }

  private int spentOf(Sold s) {
    if (s.back) return 0;
    return s.byPress && s.pressedTick < 0 ? 0 : s.price;
  }

  private boolean waits(Sold s) {
    return !s.back && s.byPress && s.pressedTick < 0 && tick <= s.tick + s.wait;
  }

  private int keptOf(Sold s) {
    return waits(s) ? s.price : 0;
  }

  private int spent(int c) {
    int sum = 0;
    for (Sold s : sales) if (s.camp == c) sum += spentOf(s);
    return sum;
  }

  private int kept(int c) {
    int sum = 0;
    for (Sold s : sales) if (s.camp == c) sum += keptOf(s);
    return sum;
  }

  private int usedToday(int c) {
    int sum = 0;
    for (Sold s : sales) if (s.camp == c && s.tick / 100 == tick / 100) sum += spentOf(s) + keptOf(s);
    return sum;
  }

  private int shown(int c) {
    int n = 0;
    for (Sold s : sales) if (s.camp == c && !s.back) n++;
    return n;
  }

  private int pressed(int c) {
    int n = 0;
    for (Sold s : sales) if (s.camp == c && !s.back && s.pressedTick >= 0) n++;
    return n;
  }

  private long chancePart(int c, long of) {
    int shows = 0, presses = 0;
    for (Sold s : sales) {
      if (s.camp != c || s.back || s.tick >= tick) continue;
      shows++;
      if (s.pressedTick >= 0 && s.pressedTick < tick) presses++;
    }
    return of * (presses + 1) / (shows + 20);
  }

  private boolean behind(int c) {
    Camp x = camps.get(c);
    if (x.sort != 1 || x.many == 0) return false;
    if (tick / 100 > x.promisedDay) return shown(c) < x.many;
    long ticks = 100L * x.promisedDay + 99 + 1 - x.promisedTick;
    return shown(c) < (long) x.many * (tick - x.promisedTick) / ticks;
  }

  private long worth(int c, int size) {
    Camp x = camps.get(c);
    if (x.sort == 2) return 0;
    long w = 10000L * x.bid * size;
    if (x.pays == 1) w = chancePart(c, w);
    return behind(c) ? w + 1000000000L : w;
  }

  private int drawn(int c, int reader) {
    int h = tick * 40503 + reader * 9973 + c * 7919;
    h = (h ^ (h >>> 7)) * 668265263;
    return (h >>> 16) % 1000;
  }

  int why(int c, int reader, int page) {
    if (noCamp(c) || noReader(reader) || noPage(page)) return BAD;
    Camp x = camps.get(c);
    if (x.stopped == 1) return 1;
    for (int bit = 1; bit < 4096; bit *= 2) {
      if ((x.must & bit) != 0 && (marks[reader] & bit) == 0) return 2;
      if ((x.mustNot & bit) != 0 && (marks[reader] & bit) != 0) return 2;
    }
    int shows = 0;
    for (Sold s : sales) {
      if (s.camp == c && s.reader == reader && !s.back && s.tick >= tick - x.span + 1) shows++;
    }
    if (shows >= x.cap) return 3;
    if (x.sort == 0 && (x.day - usedToday(c) < x.bid || x.all - spent(c) - kept(c) < x.bid)) return 4;
    if (drawn(c, reader) >= x.throttle) return 5;
    for (Sold s : sales) if (s.page == page && s.tick == tick && !s.back && x.apart.contains(s.camp)) return 6;
    for (Sold s : sales) if (s.page == page && s.tick == tick && !s.back && s.camp == c) return 7;
    return 0;
  }

  /** The best giving found so far while all are gone through, in the order of the document's last tie. */
  private static final class Found {
    long sum = -1;
    int filled;
    int[] given;
  }

  private Found found(int reader, int page, int without) {
    List<Integer> may = new ArrayList<>();
    for (int c = 0; c < camps.size(); c++) if (c != without && why(c, reader, page) == 0) may.add(c);
    int[] sizes = pages.get(page);
    long[][] worths = new long[sizes.length][40];
    for (int p = 0; p < sizes.length; p++) for (int c : may) worths[p][c] = worth(c, sizes[p]);
    Found best = new Found();
    int[] trial = new int[sizes.length];
    goThrough(0, trial, 0, 0, may, worths, best);
    return best;
  }

  private void goThrough(int place, int[] trial, long sum, int filled, List<Integer> may, long[][] worths, Found best) {
    if (place == trial.length) {
      if (sum > best.sum || sum == best.sum && filled > best.filled) {
        best.sum = sum;
        best.filled = filled;
        best.given = trial.clone();
      }
      return;
    }
    next:
    for (int c : may) {
      for (int p = 0; p < place; p++) {
        if (trial[p] == c || trial[p] >= 0 && camps.get(c).apart.contains(trial[p])) continue next;
      }
      trial[place] = c;
      goThrough(place + 1, trial, sum + worths[place][c], filled + 1, may, worths, best);
    }
    trial[place] = NOT;
    goThrough(place + 1, trial, sum, filled, may, worths, best);
  }

  int come(int reader, int page) {
    if (noReader(reader) || noPage(page)) return BAD;
    int[] sizes = pages.get(page);
    if (sales.size() + sizes.length > 1000) return FULL;
    Found best = found(reader, page, -1);
    List<Sold> made = new ArrayList<>();
    for (int p = 0; p < sizes.length; p++) {
      int c = best.given[p];
      if (c < 0) continue;
      Sold s = new Sold();
      s.tick = tick;
      s.reader = reader;
      s.page = page;
      s.place = p;
      s.camp = c;
      s.wait = wait;
      s.byPress = camps.get(c).pays == 1;
      s.price = price(c, sizes[p], reader, page, best.sum);
      made.add(s);
    }
    sales.addAll(made);
    return made.size();
  }

  private int price(int c, int size, int reader, int page, long bestSum) {
    Camp x = camps.get(c);
    if (x.sort != 0) return 0;
    int first = Math.max(1, x.bid * size / 100);
    if (rule == 0) return first;
    long others = bestSum - worth(c, size);
    long loss = (found(reader, page, c).sum - others) / 1000000;
    return (int) Math.min(first, Math.max(0, loss));
  }

  long best(int reader, int page) {
    if (noReader(reader) || noPage(page)) return BAD;
    return found(reader, page, -1).sum;
  }

  int give(int reader, int page, int place) {
    if (noReader(reader) || noPage(page) || out(place, 0, pages.get(page).length - 1)) return BAD;
    return found(reader, page, -1).given[place];
  }

  private int state(Sold s) {
    if (s.back) return 3;
    if (s.pressedTick >= 0) return 2;
    return waits(s) ? 1 : 0;
  }

  int sale(int i, int what) {
    if (noSale(i) || out(what, 0, 6)) return BAD;
    Sold s = sales.get(i);
    return new int[] {s.tick, s.reader, s.page, s.place, s.camp, s.price, state(s)}[what];
  }

  int press(int i) {
    if (noSale(i)) return BAD;
    Sold s = sales.get(i);
    if (s.back || s.pressedTick >= 0 || tick > s.tick + s.wait) return NOT;
    s.pressedTick = tick;
    return 1;
  }

  int refund(int i) {
    if (noSale(i)) return BAD;
    Sold s = sales.get(i);
    if (s.back) return NOT;
    int coins = spentOf(s);
    s.back = true;
    return coins;
  }

  int told(int c, int what) {
    if (noCamp(c) || out(what, 0, 9)) return -2000000;
    Camp x = camps.get(c);
    return new int[] {spent(c), usedToday(c), kept(c), shown(c), pressed(c), x.throttle, behind(c) ? 1 : 0,
        Math.max(0, x.day - usedToday(c)), Math.max(0, x.all - spent(c) - kept(c)), x.stopped}[what];
  }

  int chance(int c) {
    return noCamp(c) ? BAD : (int) chancePart(c, 1000000);
  }

  int draw(int c, int reader) {
    return noCamp(c) || noReader(reader) ? BAD : drawn(c, reader);
  }

  int income(int page) {
    if (noPage(page)) return BAD;
    int sum = 0;
    for (Sold s : sales) if (s.page == page) sum += spentOf(s);
    return sum;
  }

  int count(int what) {
    if (out(what, 0, 5)) return BAD;
    int back = 0, spent = 0;
    for (Sold s : sales) {
      if (s.back) back++;
      spent += spentOf(s);
    }
    return new int[] {pages.size(), camps.size(), sales.size(), tick, back, spent}[what];
  }
}
