/**
 * A market for notices: readers come to pages, and the places there are sold to campaigns.
 * The document ../shared/DOC.md says what each call answers.
 */
public final class NoticeMarket {
    public static final int BAD = -1, NOT = -2, FULL = -3;

    private static final int MOST_PAGES = 8, MOST_PLACES = 4, MOST_SIZE = 100, SIZE_BASE = 128;
    private static final int MOST_READERS = 100, ALL_MARKS = 4095, MARKS_BASE = 4096;
    private static final int MOST_CAMPAIGNS = 40, MOST_BID = 1000, MOST_BUDGET = 1000000;
    private static final int MOST_CAP = 9, MOST_SPAN = 1000, MOST_MANY = 1000, MOST_WAIT = 200;
    private static final int LEAST_PACE = 10, MOST_PACE = 100, MOST_THROTTLE = 1000;
    private static final int MOST_SALES = 1000, LAST_TICK = 10000, MOST_TICKS = 100, DAY = 100;
    private static final int BIDDING = 0, PROMISED = 1, HOUSE = 2;
    private static final int FIRST = 0, LOSS = 1;
    private static final int SHOWN = 0, WAITING = 1, PRESSED = 2, TAKEN_BACK = 3;
    private static final int BAD_TOLD = -2000000, NONE = -1;
    private static final int WORTH_OF_COIN = 1000000, MILLION = 1000000;
    private static final long BEHIND_WORTH = 1000000000L;

    private final Page[] pages = new Page[MOST_PAGES];
    private final Campaign[] campaigns = new Campaign[MOST_CAMPAIGNS];
    private final Sale[] sales = new Sale[MOST_SALES];
    private final int[] readerMarks = new int[MOST_READERS];
    private final Giver giver = new Giver();
    private final int[] given = new int[MOST_PLACES];
    private final int[] prices = new int[MOST_PLACES];
    private int pageCount;
    private int campaignCount;
    private int saleCount;
    private int backCount;
    private int spentInAll;
    private int now;
    private int priceRule;
    private int paceTicks;
    private int pressWait = 50;
    /** No sale that waits becomes free at a TICK up to this one; spares most ticks the search for them. */
    private int noneFreeBy = LAST_TICK;

    public NoticeMarket() {
    }

    // ---- who there is

    public int page(int sizes) {
        int places = placesIn(sizes);
        if (places == 0) return BAD;
        if (pageCount >= MOST_PAGES) return FULL;
        pages[pageCount] = new Page(sizes, places);
        pageCount++;
        return pageCount - 1;
    }

    public int marks(int reader, int marks) {
        if (!isReader(reader) || !isWithin(marks, 0, ALL_MARKS)) return BAD;
        int before = readerMarks[reader];
        readerMarks[reader] = marks;
        return before;
    }

    public int campaign(int how, int wish, int bid) {
        if (!isSort(how) || !isWish(wish) || !isBid(how / 10, bid)) return BAD;
        if (campaignCount >= MOST_CAMPAIGNS) return FULL;
        campaigns[campaignCount] = new Campaign(how, wish, bid);
        campaignCount++;
        return campaignCount - 1;
    }

    public int budget(int c, int day, int all) {
        if (!isCampaign(c) || !isWithin(day, 0, MOST_BUDGET) || !isWithin(all, 0, MOST_BUDGET)) return BAD;
        campaigns[c].dayBudget = day;
        campaigns[c].allBudget = all;
        return 1;
    }

    public int cap(int c, int cap, int span) {
        if (!isCampaign(c) || !isWithin(cap, 1, MOST_CAP) || !isWithin(span, 1, MOST_SPAN)) return BAD;
        campaigns[c].mostShowings = cap;
        campaigns[c].capSpan = span;
        return 1;
    }

    public int apart(int a, int b, int is) {
        if (!isCampaign(a) || !isCampaign(b) || a == b || !isWithin(is, 0, 1)) return BAD;
        int before = campaigns[a].isApartFrom(b) ? 1 : 0;
        campaigns[a].setApart(b, is == 1);
        campaigns[b].setApart(a, is == 1);
        return before;
    }

    public int promise(int c, int many, int day) {
        if (!isCampaign(c) || !isWithin(many, 1, MOST_MANY) || day < now / DAY) return BAD;
        if (campaigns[c].sort != PROMISED) return NOT;
        campaigns[c].takePromise(many, now, DAY * (day + 1L));
        return 1;
    }

    public int stop(int c, int is) {
        if (!isCampaign(c) || !isWithin(is, 0, 1)) return BAD;
        int before = campaigns[c].stopped;
        campaigns[c].stopped = is;
        return before;
    }

    public int rule(int r) {
        if (r != FIRST && r != LOSS) return BAD;
        int before = priceRule;
        priceRule = r;
        return before;
    }

    public int pace(int n, int wait) {
        if (n != 0 && !isWithin(n, LEAST_PACE, MOST_PACE)) return BAD;
        if (!isWithin(wait, 1, MOST_WAIT)) return BAD;
        paceTicks = n;
        pressWait = wait;
        return 1;
    }

    // ---- selling

    public int tick(int n) {
        if (!isWithin(n, 1, MOST_TICKS) || now > LAST_TICK - n) return BAD;
        closeTick();
        for (int i = 0; i < n; i++) goOneTick();
        return now;
    }

    public int come(int reader, int page) {
        if (!isReader(reader) || !isPage(page)) return BAD;
        Page on = pages[page];
        if (saleCount > MOST_SALES - on.places) return FULL;
        seekBest(reader, on);
        keepGivenAndPrices(on);
        int before = saleCount;
        for (int place = 0; place < on.places; place++) {
            if (given[place] != NONE) sell(reader, page, place);
        }
        return saleCount - before;
    }

    public int why(int c, int reader, int page) {
        if (!isCampaign(c) || !isReader(reader) || !isPage(page)) return BAD;
        return hindrance(c, reader, pages[page]);
    }

    public long best(int reader, int page) {
        if (!isReader(reader) || !isPage(page)) return BAD;
        return seekBest(reader, pages[page]);
    }

    public int give(int reader, int page, int place) {
        if (!isReader(reader) || !isPage(page) || !isWithin(place, 0, pages[page].places - 1)) return BAD;
        seekBest(reader, pages[page]);
        int c = giver.chosen[place];
        return c == NONE ? NOT : c;
    }

    public int sale(int i, int what) {
        if (!isSale(i)) return BAD;
        Sale of = sales[i];
        switch (what) {
            case 0: return of.soldAt;
            case 1: return of.reader;
            case 2: return of.page;
            case 3: return of.place;
            case 4: return of.campaign;
            case 5: return of.price;
            case 6: return of.state;
            default: return BAD;
        }
    }

    public int press(int sale) {
        if (!isSale(sale)) return BAD;
        Sale of = sales[sale];
        Campaign who = campaigns[of.campaign];
        int pressable = who.paysByPress ? WAITING : SHOWN;
        if (of.state != pressable || now > of.lastPress) return NOT;
        if (of.state == WAITING) spendHeld(of);
        of.state = PRESSED;
        of.pressedAt = now;
        who.tally.presses++;
        who.tally.pressesNow++;
        return 1;
    }

    public int refund(int sale) {
        if (!isSale(sale)) return BAD;
        Sale of = sales[sale];
        if (of.state == TAKEN_BACK) return NOT;
        int back = of.paid;
        freeHeld(of);
        givePaidBack(of);
        uncount(of);
        of.state = TAKEN_BACK;
        backCount++;
        return back;
    }

    // ---- what came of it

    public int told(int c, int what) {
        if (!isCampaign(c)) return BAD_TOLD;
        Campaign who = campaigns[c];
        switch (what) {
            case 0: return who.tally.spent;
            case 1: return who.tally.usedToday;
            case 2: return who.tally.held;
            case 3: return who.tally.shows;
            case 4: return who.tally.presses;
            case 5: return who.throttle;
            case 6: return who.isBehind(now) ? 1 : 0;
            case 7: return Math.max(0, who.leftToday());
            case 8: return Math.max(0, who.leftInAll());
            case 9: return who.stopped;
            default: return BAD_TOLD;
        }
    }

    public int chance(int c) {
        if (!isCampaign(c)) return BAD;
        return (int) campaigns[c].tally.chanceOf(MILLION);
    }

    public int draw(int c, int reader) {
        if (!isCampaign(c) || !isReader(reader)) return BAD;
        return drawn(c, reader);
    }

    public int income(int page) {
        if (!isPage(page)) return BAD;
        return pages[page].earned;
    }

    public int count(int what) {
        switch (what) {
            case 0: return pageCount;
            case 1: return campaignCount;
            case 2: return saleCount;
            case 3: return now;
            case 4: return backCount;
            case 5: return spentInAll;
            default: return BAD;
        }
    }

    // ---- what is as said

    private static boolean isWithin(int n, int least, int most) {
        return n >= least && n <= most;
    }

    private boolean isPage(int page) {
        return page >= 0 && page < pageCount;
    }

    private static boolean isReader(int reader) {
        return reader >= 0 && reader < MOST_READERS;
    }

    private boolean isCampaign(int c) {
        return c >= 0 && c < campaignCount;
    }

    private boolean isSale(int i) {
        return i >= 0 && i < saleCount;
    }

    private static boolean isSort(int how) {
        return how == 10 * BIDDING || how == 10 * BIDDING + 1 || how == 10 * PROMISED || how == 10 * HOUSE;
    }

    private static boolean isWish(int wish) {
        if (wish < 0 || wish / MARKS_BASE > ALL_MARKS) return false;
        return (wish / MARKS_BASE & wish % MARKS_BASE) == 0;
    }

    private static boolean isBid(int sort, int bid) {
        return sort == HOUSE ? bid == 0 : isWithin(bid, 1, MOST_BID);
    }

    /** How many places these sizes are for; 0 if they are not as said. */
    private static int placesIn(int sizes) {
        int places = 0;
        int rest = sizes;
        while (rest > 0 && places < MOST_PLACES) {
            if (!isWithin(rest % SIZE_BASE, 1, MOST_SIZE)) return 0;
            rest /= SIZE_BASE;
            places++;
        }
        return rest == 0 ? places : 0;
    }

    // ---- time

    /** Nothing is sold or pressed between the ticks of one call, so this is needed once a call. */
    private void closeTick() {
        for (int c = 0; c < campaignCount; c++) campaigns[c].tally.endTick();
        for (int p = 0; p < pageCount; p++) pages[p].shownNow = 0L;
    }

    private void goOneTick() {
        now++;
        if (now % DAY == 0) closeDay();
        if (now > noneFreeBy) freeLateSales();
        if (paceTicks != 0 && now % paceTicks == 0) setThrottles();
    }

    private void closeDay() {
        for (int c = 0; c < campaignCount; c++) campaigns[c].tally.usedToday = 0;
    }

    private void freeLateSales() {
        noneFreeBy = LAST_TICK;
        for (int i = 0; i < saleCount; i++) {
            Sale of = sales[i];
            if (of.state != WAITING) continue;
            if (now > of.lastPress) {
                freeHeld(of);
                of.state = SHOWN;
            } else {
                noneFreeBy = Math.min(noneFreeBy, of.lastPress);
            }
        }
    }

    private void setThrottles() {
        for (int c = 0; c < campaignCount; c++) {
            if (campaigns[c].sort == BIDDING) campaigns[c].setThrottle(now % DAY);
        }
    }

    // ---- giving

    private int drawn(int c, int reader) {
        int h = now * 40503 + reader * 9973 + c * 7919;
        int mixed = (h ^ (h >>> 7)) * 668265263;
        return (mixed >>> 16) % 1000;
    }

    private int hindrance(int c, int reader, Page on) {
        Campaign who = campaigns[c];
        if (who.stopped == 1) return 1;
        if (!who.wants(readerMarks[reader])) return 2;
        if (who.tally.showsTo(reader, now - who.capSpan) >= who.mostShowings) return 3;
        if (who.sort == BIDDING && Math.min(who.leftToday(), who.leftInAll()) < who.bid) return 4;
        if (drawn(c, reader) >= who.throttle) return 5;
        if ((who.apartFrom & on.shownNow) != 0L) return 6;
        if ((on.shownNow >>> c & 1L) == 1L) return 7;
        return 0;
    }

    /** Leaves the best giving in the giver, and answers its sum of worths. */
    private long seekBest(int reader, Page on) {
        giver.startFor(on.places);
        for (int c = 0; c < campaignCount; c++) {
            if (hindrance(c, reader, on) == 0) offer(c, on);
        }
        return giver.seek(NONE);
    }

    private void offer(int c, Page on) {
        Campaign who = campaigns[c];
        boolean behind = who.isBehind(now);
        for (int place = 0; place < on.places; place++) {
            giver.addWorth(c, place, who.worthAt(on.sizes[place], behind));
        }
        giver.addCampaign(c, who.apartFrom);
    }

    // ---- money

    /** The prices come ahead of all sales of one coming, as each sale changes what may be shown. */
    private void keepGivenAndPrices(Page on) {
        for (int place = 0; place < on.places; place++) given[place] = giver.chosen[place];
        long bestSum = giver.bestSum();
        for (int place = 0; place < on.places; place++) {
            prices[place] = given[place] == NONE ? 0 : priceAt(place, on, bestSum);
        }
    }

    private int priceAt(int place, Page on, long bestSum) {
        int c = given[place];
        Campaign who = campaigns[c];
        if (who.sort != BIDDING) return 0;
        int first = Math.max(1, who.bid * on.sizes[place] / 100);
        if (priceRule == FIRST) return first;
        long others = bestSum - giver.worthOf(c, place);
        long loss = (giver.seek(c) - others) / WORTH_OF_COIN;
        return (int) Math.max(0L, Math.min((long) first, loss));
    }

    private void sell(int reader, int page, int place) {
        int c = given[place];
        Campaign who = campaigns[c];
        Sale made = new Sale(now, reader, page, place, c);
        made.price = prices[place];
        made.lastPress = now + pressWait;
        sales[saleCount] = made;
        saleCount++;
        pages[page].shownNow |= 1L << c;
        who.tally.addShowing(made);
        who.tally.usedToday += made.price;
        if (who.paysByPress) hold(made);
        else spend(made);
    }

    private void hold(Sale of) {
        of.state = WAITING;
        of.held = of.price;
        campaigns[of.campaign].tally.held += of.price;
        noneFreeBy = Math.min(noneFreeBy, of.lastPress);
    }

    private void spend(Sale of) {
        of.paid = of.price;
        addSpent(of, of.price);
    }

    private void addSpent(Sale of, int coins) {
        campaigns[of.campaign].tally.spent += coins;
        pages[of.page].earned += coins;
        spentInAll += coins;
    }

    /** What is used of the day stays as it is: kept aside and spent count alike there. */
    private void spendHeld(Sale of) {
        campaigns[of.campaign].tally.held -= of.held;
        of.held = 0;
        spend(of);
    }

    private void freeHeld(Sale of) {
        campaigns[of.campaign].tally.held -= of.held;
        lessenDay(of, of.held);
        of.held = 0;
    }

    private void givePaidBack(Sale of) {
        addSpent(of, -of.paid);
        lessenDay(of, of.paid);
        of.paid = 0;
    }

    private void lessenDay(Sale of, int coins) {
        if (of.soldAt / DAY == now / DAY) campaigns[of.campaign].tally.usedToday -= coins;
    }

    private void uncount(Sale of) {
        Tally tally = campaigns[of.campaign].tally;
        tally.shows--;
        if (of.soldAt == now) {
            tally.showsNow--;
            pages[of.page].shownNow &= ~(1L << of.campaign);
        }
        if (of.state != PRESSED) return;
        tally.presses--;
        if (of.pressedAt == now) tally.pressesNow--;
    }

    // ---- the classes inside

    private static final class Page {
        final int[] sizes = new int[MOST_PLACES];
        final int places;
        int earned;
        /** A bit for each campaign with a sale here at this TICK that is not taken back. */
        long shownNow;

        Page(int allSizes, int howMany) {
            places = howMany;
            int rest = allSizes;
            for (int place = Math.min(howMany, MOST_PLACES) - 1; place >= 0; place--) {
                sizes[place] = rest % SIZE_BASE;
                rest /= SIZE_BASE;
            }
        }
    }

    private static final class Sale {
        final int soldAt;
        final int reader;
        final int page;
        final int place;
        final int campaign;
        int price;
        int state;
        int lastPress;
        int pressedAt;
        int paid;
        int held;
        /** The sale of the same campaign ahead of this one, or null. */
        Sale earlier;

        Sale(int tickNow, int toReader, int onPage, int atPlace, int ofCampaign) {
            soldAt = tickNow;
            reader = toReader;
            page = onPage;
            place = atPlace;
            campaign = ofCampaign;
        }
    }

    /** What came of a campaign's sales; those that are taken back are not in it. */
    private static final class Tally {
        int spent;
        int held;
        int usedToday;
        int shows;
        int showsNow;
        int presses;
        int pressesNow;
        /** The newest sale, even if it is taken back. */
        Sale newest;

        void addShowing(Sale made) {
            shows++;
            showsNow++;
            made.earlier = newest;
            newest = made;
        }

        void endTick() {
            showsNow = 0;
            pressesNow = 0;
        }

        /** So many times the chance, the rest away. */
        long chanceOf(long times) {
            int outOf = shows - showsNow + 20;
            if (outOf <= 0) return 0L;
            return times * (presses - pressesNow + 1) / outOf;
        }

        int showsTo(int reader, int afterTick) {
            int many = 0;
            for (Sale of = newest; of != null && of.soldAt > afterTick; of = of.earlier) {
                if (of.reader == reader && of.state != TAKEN_BACK) many++;
            }
            return many;
        }
    }

    private static final class Campaign {
        final int sort;
        final boolean paysByPress;
        final int mustHave;
        final int mustLack;
        final int bid;
        final Tally tally = new Tally();
        int dayBudget;
        int allBudget;
        int mostShowings = MOST_CAP;
        int capSpan = 1;
        int throttle = MOST_THROTTLE;
        int stopped;
        /** A bit for each campaign that is apart from this one. */
        long apartFrom;
        /** 0 until a promise is told. */
        int promisedMany;
        int promisedAt;
        long promiseEnd;

        Campaign(int how, int wish, int coins) {
            sort = how / 10;
            paysByPress = how % 10 == 1;
            mustHave = wish / MARKS_BASE;
            mustLack = wish % MARKS_BASE;
            bid = coins;
        }

        boolean isApartFrom(int other) {
            return (apartFrom >>> other & 1L) == 1L;
        }

        void setApart(int other, boolean is) {
            if (is) apartFrom |= 1L << other;
            else apartFrom &= ~(1L << other);
        }

        void takePromise(int many, int at, long end) {
            promisedMany = many;
            promisedAt = at;
            promiseEnd = end;
        }

        boolean wants(int marks) {
            return (marks & mustHave) == mustHave && (marks & mustLack) == 0;
        }

        int leftToday() {
            return dayBudget - tally.usedToday;
        }

        int leftInAll() {
            return allBudget - tally.spent - tally.held;
        }

        boolean isBehind(int now) {
            if (promisedMany == 0) return false;
            return tally.shows < dueBy(now);
        }

        private long dueBy(int now) {
            long span = promiseEnd - promisedAt;
            if (now >= promiseEnd || span <= 0L) return promisedMany;
            return (long) promisedMany * (now - promisedAt) / span;
        }

        long worthAt(int size, boolean behind) {
            if (sort == HOUSE) return 0L;
            long full = 10000L * bid * size;
            if (paysByPress) return tally.chanceOf(full);
            return behind ? full + BEHIND_WORTH : full;
        }

        void setThrottle(int tickOfDay) {
            if (tickOfDay == 0) return;
            long used = tally.usedToday * 100L;
            long due = (long) dayBudget * tickOfDay;
            if (used > due) throttle = Math.max(1, throttle * 9 / 10);
            else if (used < due) throttle = Math.min(MOST_THROTTLE, throttle * 11 / 10 + 1);
        }
    }

    /**
     * Finds the best giving. A campaign's weight at a place holds, from high to low, its worth, that
     * a place is filled, and how early its number is there, each beyond what all lower ones of four
     * places can sum to: so the best giving is the one whose weights have the greatest sum. A worth
     * is at most 2000000000 (a chance is below 1), so the sum stays below 2 to the 57th.
     */
    private static final class Giver {
        private static final int BASE = MOST_CAMPAIGNS + 1;
        private static final long FILLED_UNIT = (long) BASE * BASE * BASE * BASE;
        private static final long WORTH_UNIT = FILLED_UNIT * (MOST_PLACES + 1);

        final int[] chosen = new int[MOST_PLACES];
        private final int[] trial = new int[MOST_PLACES];
        private final long[][] weights = new long[MOST_PLACES][MOST_CAMPAIGNS];
        /** For each place the campaigns offered, the greatest weight first. */
        private final int[][] order = new int[MOST_PLACES][MOST_CAMPAIGNS];
        private final long[] apartFrom = new long[MOST_CAMPAIGNS];
        private int places;
        private int offered;
        private long offeredSet;
        private long bestWeight;

        void startFor(int howMany) {
            places = Math.min(howMany, MOST_PLACES);
            offered = 0;
            offeredSet = 0L;
        }

        /** All worths of a campaign are added ahead of the campaign itself. */
        void addWorth(int c, int place, long worth) {
            long early = MOST_CAMPAIGNS - c;
            for (int later = place + 1; later < MOST_PLACES; later++) early *= BASE;
            long weight = worth * WORTH_UNIT + FILLED_UNIT + early;
            weights[place][c] = weight;
            int at = offered;
            while (at > 0 && weights[place][order[place][at - 1]] < weight) {
                order[place][at] = order[place][at - 1];
                at--;
            }
            order[place][at] = c;
        }

        void addCampaign(int c, long apart) {
            apartFrom[c] = apart;
            offeredSet |= 1L << c;
            offered++;
        }

        long worthOf(int c, int place) {
            return weights[place][c] / WORTH_UNIT;
        }

        long bestSum() {
            return bestWeight / WORTH_UNIT;
        }

        /** Leaves the best giving without one campaign (or NONE) in chosen, and answers its sum of worths. */
        long seek(int without) {
            bestWeight = 0L;
            for (int place = 0; place < MOST_PLACES; place++) chosen[place] = NONE;
            long free = without == NONE ? offeredSet : offeredSet & ~(1L << without);
            fillFrom(0, free, 0L);
            return bestSum();
        }

        /** Tries what may stand at this place and at those behind it; it goes no deeper than the places do. */
        private void fillFrom(int place, long free, long sum) {
            if (place >= places) {
                keepIfBetter(sum);
                return;
            }
            long most = sum + mostFrom(place + 1, free);
            for (int i = 0; i < offered; i++) {
                int c = order[place][i];
                if ((free >>> c & 1L) == 0L) continue;
                long weight = weights[place][c];
                if (most + weight <= bestWeight) return;
                tryAt(place, c, free & ~(apartFrom[c] | 1L << c), sum + weight);
            }
            if (most > bestWeight) tryAt(place, NONE, free, sum);
        }

        private void tryAt(int place, int c, long freeThen, long sumThen) {
            trial[place] = c;
            fillFrom(place + 1, freeThen, sumThen);
        }

        private void keepIfBetter(long sum) {
            if (sum <= bestWeight) return;
            bestWeight = sum;
            for (int place = 0; place < places; place++) chosen[place] = trial[place];
        }

        /** At least what the places from this one on can still add: each one's greatest, alone. */
        private long mostFrom(int place, long free) {
            long most = 0L;
            for (int p = place; p < places; p++) most += greatestAt(p, free);
            return most;
        }

        private long greatestAt(int place, long free) {
            for (int i = 0; i < offered; i++) {
                int c = order[place][i];
                if ((free >>> c & 1L) == 1L) return weights[place][c];
            }
            return 0L;
        }
    }
}
