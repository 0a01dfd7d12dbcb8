/** Promises 20 to 24: what is told of what came of it. */
public final class OutcomeTest {
  private static final Due due = new Due("OutcomeTest");
  private static final int BAD = -1, BAD_TOLD = -2000000;
  private static final int LEAST = Integer.MIN_VALUE, MOST = Integer.MAX_VALUE;

  public static void main(String[] args) {
    promise20Told();
    promise20LeftIsNotBelowZero();
    promise20Days();
    promise21Chance();
    promise22Draw();
    promise23Income();
    promise24Count();
    due.end();
  }

  private static void isTold(NoticeMarket m, int c, int[] want) {
    for (int what = 0; what < want.length; what++) {
      due.is("told(" + c + ", " + what + ") at " + m.count(3), m.told(c, what), want[what]);
    }
  }

  private static void promise20Told() {
    NoticeMarket m = new NoticeMarket();
    due.is("no campaign", m.told(0, 0), BAD_TOLD);
    m.page(100 * 128 + 50);
    m.campaign(0, 0, 20);
    m.campaign(1, 0, 60);
    m.budget(0, 100, 200);
    m.budget(1, 300, 400);
    due.is("campaign 2", m.told(2, 0), BAD_TOLD);
    due.is("campaign -1", m.told(-1, 0), BAD_TOLD);
    due.is("campaign LEAST", m.told(LEAST, 0), BAD_TOLD);
    due.is("what 10", m.told(0, 10), BAD_TOLD);
    due.is("what -1", m.told(0, -1), BAD_TOLD);
    due.is("what MOST", m.told(0, MOST), BAD_TOLD);
    m.come(0, 0);
    isTold(m, 0, new int[] {20, 20, 0, 1, 0, 1000, 0, 80, 180, 0});
    isTold(m, 1, new int[] {0, 30, 30, 1, 0, 1000, 0, 270, 370, 0});
    m.press(0);
    m.press(1);
    isTold(m, 0, new int[] {20, 20, 0, 1, 1, 1000, 0, 80, 180, 0});
    isTold(m, 1, new int[] {30, 30, 0, 1, 1, 1000, 0, 270, 370, 0});
    m.stop(0, 1);
    due.is("stopped", m.told(0, 9), 1);
    m.tick(1);
    m.come(0, 0);
    m.tick(51);
    isTold(m, 1, new int[] {30, 30, 0, 2, 1, 1000, 0, 270, 370, 0});
    m.refund(1);
    isTold(m, 1, new int[] {0, 0, 0, 1, 0, 1000, 0, 300, 400, 0});
  }

  private static void promise20LeftIsNotBelowZero() {
    NoticeMarket m = new NoticeMarket();
    m.page(100);
    m.campaign(0, 0, 20);
    m.budget(0, 100, 200);
    m.come(0, 0);
    m.budget(0, 10, 19);
    due.is("of the day", m.told(0, 7), 0);
    due.is("in all", m.told(0, 8), 0);
    m.budget(0, 20, 20);
    due.is("just none of the day", m.told(0, 7), 0);
    m.budget(0, 21, 22);
    due.is("1 of the day", m.told(0, 7), 1);
    due.is("2 in all", m.told(0, 8), 2);
  }

  private static void promise20Days() {
    NoticeMarket m = new NoticeMarket();
    m.page(100);
    m.campaign(1, 0, 20);
    m.budget(0, 100, 200);
    m.pace(0, 10);
    m.tick(95);
    m.come(0, 0);
    due.is("kept aside of this day", m.told(0, 1), 20);
    m.tick(4);
    due.is("the day's last tick", m.told(0, 1), 20);
    m.tick(1);
    isTold(m, 0, new int[] {0, 0, 20, 1, 0, 1000, 0, 100, 180, 0});
    m.come(0, 0);
    m.tick(6);
    isTold(m, 0, new int[] {0, 20, 20, 2, 0, 1000, 0, 80, 180, 0});
    m.press(1);
    isTold(m, 0, new int[] {20, 20, 0, 2, 1, 1000, 0, 80, 180, 0});
  }

  private static void promise21Chance() {
    NoticeMarket m = new NoticeMarket();
    due.is("no campaign", m.chance(0), BAD);
    m.page(100);
    m.campaign(20, 0, 0);
    due.is("campaign 1", m.chance(1), BAD);
    due.is("campaign -1", m.chance(-1), BAD);
    due.is("campaign MOST", m.chance(MOST), BAD);
    due.is("1 of 20", m.chance(0), 50000);
    m.come(0, 0);
    due.is("none of this tick", m.chance(0), 50000);
    m.tick(1);
    due.is("1 of 21", m.chance(0), 47619);
    m.press(0);
    due.is("no press of this tick", m.chance(0), 47619);
    m.come(0, 0);
    m.press(1);
    due.is("nor of a sale of this tick", m.chance(0), 47619);
    m.refund(0);
    due.is("taken back: 1 of 20", m.chance(0), 50000);
    m.tick(1);
    due.is("2 of 21", m.chance(0), 95238);
    m.come(0, 0);
    m.refund(2);
    m.tick(1);
    due.is("2 of 21 still", m.chance(0), 95238);
  }

  private static void promise22Draw() {
    NoticeMarket m = new NoticeMarket();
    due.is("no campaign", m.draw(0, 0), BAD);
    m.campaign(0, 0, 1);
    m.campaign(0, 0, 1);
    due.is("all 0", m.draw(0, 0), 0);
    due.is("campaign 2", m.draw(2, 0), BAD);
    due.is("campaign -1", m.draw(-1, 0), BAD);
    due.is("reader -1", m.draw(0, -1), BAD);
    due.is("reader 100", m.draw(0, 100), BAD);
    int tick = 0;
    for (int i = 0; i < 20; i++) {
      for (int reader = 0; reader < 100; reader += 11) {
        due.is("draw 0", m.draw(0, reader), Setup.drawn(tick, reader, 0));
        due.is("draw 1", m.draw(1, reader), Setup.drawn(tick, reader, 1));
      }
      tick = m.tick(1 + 5 * i);
    }
    for (int i = 0; i < 70; i++) tick = m.tick(100);
    due.is("late", m.draw(1, 99), Setup.drawn(tick, 99, 1));
  }

  private static void promise23Income() {
    NoticeMarket m = new NoticeMarket();
    due.is("no page", m.income(0), BAD);
    m.page(100);
    m.page(50);
    due.is("page 2", m.income(2), BAD);
    due.is("page -1", m.income(-1), BAD);
    m.campaign(0, 0, 20);
    m.campaign(1, 0, 500);
    m.budget(0, 1000, 1000);
    m.budget(1, 1000, 1000);
    m.come(0, 0);
    due.is("nothing while it waits", m.income(0), 0);
    m.come(0, 1);
    m.press(0);
    due.is("pressed", m.income(0), 500);
    due.is("nothing of the other page", m.income(1), 0);
    m.come(0, 1);
    due.is("by showing", m.income(1), 10);
    due.is("all spent", m.count(5), 510);
    m.refund(0);
    due.is("back", m.income(0), 0);
    due.is("the other stays", m.income(1), 10);
    due.is("all spent then", m.count(5), 10);
  }

  private static void promise24Count() {
    NoticeMarket m = new NoticeMarket();
    due.is("what 6", m.count(6), BAD);
    due.is("what -1", m.count(-1), BAD);
    due.is("what LEAST", m.count(LEAST), BAD);
    m.page(100 * 128 + 100);
    m.page(100);
    for (int c = 0; c < 3; c++) {
      m.campaign(0, 0, 10 + c);
      m.budget(c, 100, 100);
    }
    m.tick(7);
    m.come(0, 0);
    m.come(1, 1);
    m.refund(1);
    int[] want = {2, 3, 3, 7, 1, 11 + 12};
    for (int what = 0; what < 6; what++) due.is("count(" + what + ")", m.count(what), want[what]);
  }
}
