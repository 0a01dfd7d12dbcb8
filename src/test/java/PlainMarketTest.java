import java.lang.reflect.Method;
import java.util.EnumMap;
import java.util.Map;
import java.util.Random;

/** Random runs, always the same ones, on NoticeMarket and on PlainMarket: the answers are the same. */
public final class PlainMarketTest {
  private static final Due due = new Due("PlainMarketTest");
  private static final int CALLS = 512, RANDOM_CALLS = 420, WRONG_AT_MOST = 20;
  private static final int[] ODD = {-2, -1, 0, 1, 9, 10, 11, 99, 100, 101, 1000, 1001, 4095, 4096, 1000000, 1000001,
      Integer.MAX_VALUE, Integer.MIN_VALUE};

  private enum Call {
    PAGE, MARKS, CAMPAIGN, BUDGET, CAP, APART, PROMISE, STOP, RULE, PACE, TICK, COME, WHY, BEST, GIVE, SALE, PRESS,
    REFUND, TOLD, CHANCE, DRAW, INCOME, COUNT;

    private Method of(Class<?> type) {
      for (Method method : type.getDeclaredMethods()) {
        if (method.getName().equals(name().toLowerCase())) return method;
      }
      throw new IllegalStateException(type + " has no " + name());
    }
  }

  /** What the runs of one kind are like: how large their numbers are, and how often each call comes. */
  private static final class Kind {
    final int runs, campaigns, readers, mostTicks;
    final int[] oftens;
    final int oftenSum;

    Kind(int runs, int campaigns, int readers, int mostTicks, int... oftens) {
      this.runs = runs;
      this.campaigns = campaigns;
      this.readers = readers;
      this.mostTicks = mostTicks;
      this.oftens = oftens;
      int sum = 0;
      for (int often : oftens) sum += often;
      this.oftenSum = sum;
    }
  }

  private static final Kind[] KINDS = {
    new Kind(400, 7, 4, 4, 2, 3, 6, 4, 4, 5, 4, 3, 4, 3, 40, 60, 16, 10, 10, 12, 20, 8, 30, 6, 1, 4, 4),
    new Kind(300, 6, 9, 20, 2, 1, 6, 3, 2, 3, 4, 1, 2, 2, 60, 60, 16, 4, 4, 8, 20, 5, 30, 4, 1, 2, 4),
    new Kind(60, 12, 99, 3, 2, 1, 10, 3, 2, 16, 3, 1, 3, 2, 30, 50, 16, 10, 10, 6, 15, 5, 15, 4, 1, 2, 2),
    new Kind(8, 40, 99, 9, 1, 2, 60, 10, 2, 60, 4, 1, 2, 2, 30, 25, 10, 3, 3, 6, 10, 5, 15, 4, 1, 2, 2),
  };

  private static final Map<Call, Method> MARKET = new EnumMap<>(Call.class), PLAIN = new EnumMap<>(Call.class);

  static {
    for (Call call : Call.values()) {
      MARKET.put(call, call.of(NoticeMarket.class));
      PLAIN.put(call, call.of(PlainMarket.class));
    }
  }

  private final Random random;
  private final Kind kind;
  private final String run;
  private final NoticeMarket market = new NoticeMarket();
  private final PlainMarket plain = new PlainMarket();
  private int calls = 0;
  private int pages = 0;
  private int campaigns = 0;
  private int sales = 0;
  private int tick = 0;

  private PlainMarketTest(Kind kind, String run, long seed) {
    this.kind = kind;
    this.run = run;
    this.random = new Random(seed);
  }

  /** A seed and how many times as many runs may be told, to seek further than .ci/run does. */
  public static void main(String[] args) {
    long seed = args.length > 0 ? Long.parseLong(args[0]) : 0;
    int times = args.length > 1 ? Integer.parseInt(args[1]) : 1;
    for (int k = 0; k < KINDS.length; k++) {
      for (int i = 0; i < KINDS[k].runs * times; i++) {
        new PlainMarketTest(KINDS[k], "kind " + k + " run " + i, seed * 1000003 + k * 100000 + i).play();
        if (due.wrong() > WRONG_AT_MOST) due.end();
      }
    }
    due.end();
  }

  private void play() {
    int before = due.wrong();
    callWithSome(Call.PAGE);
    while (calls < RANDOM_CALLS && due.wrong() == before) callWithSome(pick());
    if (due.wrong() == before) audit();
  }

  /** Asks for all that is told of pages and campaigns, as long as the object may be used. */
  private void audit() {
    for (int what = 0; what < 6; what++) compare(Call.COUNT, what, 0, 0);
    for (int page = 0; page < pages; page++) compare(Call.INCOME, page, 0, 0);
    for (int c = campaigns - 1; c >= 0; c--) {
      for (int what = 0; what < 10; what++) compare(Call.TOLD, c, what, 0);
    }
  }

  private Call pick() {
    int at = random.nextInt(kind.oftenSum);
    int call = 0;
    while (at >= kind.oftens[call]) at -= kind.oftens[call++];
    boolean enough = call == Call.CAMPAIGN.ordinal() && campaigns >= kind.campaigns;
    return enough && random.nextInt(20) != 0 ? Call.COME : Call.values()[call];
  }

  /** Mostly one of these, seldom a number that is not as said. */
  private int from(int... numbers) {
    if (random.nextInt(60) == 0) return ODD[random.nextInt(ODD.length)];
    return numbers[random.nextInt(numbers.length)];
  }

  private int below(int n) {
    return from(random.nextInt(Math.max(1, n)));
  }

  private int someReader() { return below(kind.readers); }
  private int somePage() { return below(pages); }
  private int someCampaign() { return below(campaigns); }

  /** The newer sales more often, as they are still to be pressed. */
  private int someSale() {
    int among = random.nextInt(4) != 0 ? Math.min(sales, 6) : sales;
    return from(sales - 1 - random.nextInt(Math.max(1, among)));
  }

  private int someSizes() {
    int sizes = 0;
    int places = 1 + random.nextInt(4);
    for (int p = 0; p < places; p++) sizes = sizes * 128 + from(100, 100, 50, 50, 1, 2, 99, 1 + random.nextInt(100));
    return random.nextInt(20) == 0 ? random.nextInt() : sizes;
  }

  private int someWish() {
    int must = random.nextInt(6) == 0 ? random.nextInt(4) : 0;
    int mustNot = random.nextInt(6) == 0 ? random.nextInt(4) : 0;
    return must * 4096 + (random.nextInt(20) == 0 ? mustNot : mustNot & ~must);
  }

  private int someBid(int how) {
    if (how == 20) return from(0);
    return from(10, 10, 20, 20, 40, 100, 1, 1000, 1 + random.nextInt(30), 1 + random.nextInt(1000));
  }

  private int someCoins() {
    return from(1000000, 10000, 1000, 100, 50, 20, 10, 0, random.nextInt(2000));
  }

  private void callWithSome(Call call) {
    switch (call) {
      case PAGE: compare(call, someSizes(), 0, 0); break;
      case MARKS: compare(call, someReader(), from(0, 1, 2, 3, 4095), 0); break;
      case CAMPAIGN: makeCampaign(from(0, 0, 0, 1, 1, 1, 10, 20, random.nextInt(32))); break;
      case BUDGET: compare(call, someCampaign(), someCoins(), someCoins()); break;
      case CAP: compare(call, someCampaign(), from(1, 1, 2, 3, 9), from(1, 2, 5, 20, 100, 1000)); break;
      case APART: compare(call, someCampaign(), someCampaign(), from(1, 1, 1, 0)); break;
      case PROMISE: compare(call, someCampaign(), from(1, 2, 5, 20, 100, 1000), tick / 100 + from(-1, 0, 0, 1, 5)); break;
      case STOP: compare(call, someCampaign(), from(0, 0, 0, 1), 0); break;
      case RULE: compare(call, from(0, 1, 1), 0, 0); break;
      case PACE: compare(call, from(0, 10, 10, 10, 11, 20, 50, 100), from(1, 3, 5, 20, 50, 50, 200), 0); break;
      case TICK: compare(call, 1 + below(kind.mostTicks), 0, 0); break;
      case WHY: compare(call, someCampaign(), someReader(), somePage()); break;
      case COME: case BEST: compare(call, someReader(), somePage(), 0); break;
      case GIVE: compare(call, someReader(), somePage(), below(4)); break;
      case SALE: compare(call, someSale(), below(7), 0); break;
      case PRESS: case REFUND: compare(call, someSale(), 0, 0); break;
      case TOLD: compare(call, someCampaign(), below(10), 0); break;
      case CHANCE: compare(call, someCampaign(), 0, 0); break;
      case DRAW: compare(call, someCampaign(), someReader(), 0); break;
      case INCOME: compare(call, somePage(), 0, 0); break;
      case COUNT: compare(call, below(6), 0, 0); break;
    }
  }

  /** Most new campaigns get what they need to be shown, else most comings would sell nothing. */
  private void makeCampaign(int how) {
    int bid = someBid(how);
    long c = compare(Call.CAMPAIGN, how, someWish(), bid);
    if (c < 0 || random.nextInt(8) == 0) return;
    if (how < 10) compare(Call.BUDGET, (int) c, bid * from(1, 3, 10, 100), bid * from(10, 100, 100));
    if (how == 10) compare(Call.PROMISE, (int) c, from(1, 5, 20, 100), tick / 100 + from(0, 0, 1, 3));
  }

  private long compare(Call call, int a, int b, int c) {
    if (calls++ >= CALLS) return PlainMarket.BAD;
    long want = ask(PLAIN.get(call), plain, a, b, c);
    long got = ask(MARKET.get(call), market, a, b, c);
    due.is(run + ": " + call + " " + a + " " + b + " " + c, got, want);
    if (call == Call.PAGE && want >= 0) pages++;
    if (call == Call.CAMPAIGN && want >= 0) campaigns++;
    if (call == Call.COME && want > 0) sales += (int) want;
    if (call == Call.TICK && want > 0) tick = (int) want;
    return want;
  }

  private static long ask(Method method, Object object, int a, int b, int c) {
    try {
      switch (method.getParameterCount()) {
        case 1: return ((Number) method.invoke(object, a)).longValue();
        case 2: return ((Number) method.invoke(object, a, b)).longValue();
        default: return ((Number) method.invoke(object, a, b, c)).longValue();
      }
    } catch (ReflectiveOperationException e) {
      throw new IllegalStateException(method.getName() + " " + a + " " + b + " " + c, e);
    }
  }
}
