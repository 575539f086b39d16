import java.util.Arrays;

/**
 * A clearing house: members and their clients trade contracts and options on them, each trade with the house between.
 *
 * <p>The whole state of the house stands in one House. A call that changes it is a word: Desk says it to a House and
 * answers a number or a fault, and changes nothing at a fault. So the words of a day can be played again from the
 * morning (Diary), and each step can be taken back to the House as it was ahead of it (Steps).
 */
public final class Marginhouse {
    private static final int REFUSED = -9;
    private static final int NONE = -1;

    private static final int MONEYS = 2;
    private static final int GOODS = 3;
    private static final int MONTHS = 6;
    private static final int MEMBERS = 5;
    private static final int SLOTS = 4;
    private static final int ACCOUNTS = MEMBERS * SLOTS;
    private static final int SERIES = 8;
    private static final int SCENARIOS = 5;
    private static final int LAST_DAY = 99;
    private static final int STEPS = 8;

    private static final int MOST_LIMIT = 200;
    private static final int MOST_LOTS = 50;
    private static final int MOST_PRICE = 99;
    private static final int MOST_AMOUNT = 9999;

    // Each of the last steps may be a settling, so one more morning than steps can be needed.
    private static final int KEPT = STEPS + 1;
    // An object is used for 512 calls, so more words never come.
    private static final int WORDS = 512;
    private static final int WORD_SIZE = 6;

    private static final int GOOD = 0;
    private static final int OUT = 1;

    private static final int OWN = 0;
    private static final int TOGETHER = 1;
    private static final int FIRST_APART = 2;

    private static final int CONTRACT = 0;
    private static final int CALL = 1;
    private static final int PUT = 2;

    private static final int SHORT = 0;
    private static final int BY_OWN_FUND = 1;
    private static final int BY_PART = 2;
    private static final int BY_OTHERS = 3;
    private static final int BY_GAINS = 4;
    private static final int RUNGS = 5;

    // What a word answers if it can not be said. True answers are far from these; -9 can be one (a SHIFT before).
    private static final int NO_SUCH = -2_000_000_001;
    private static final int BAD_VALUE = -2_000_000_002;
    private static final int BAD_STATE = -2_000_000_003;
    private static final int NOT_DONE = -2_000_000_004;

    private static final int SAY_MEMBER = 0;
    private static final int SAY_CLIENT = 1;
    private static final int SAY_LIMIT = 2;
    private static final int SAY_CONTRACT = 3;
    private static final int SAY_OPTION = 4;
    private static final int SAY_SCENARIO = 5;
    private static final int SAY_SHIFT = 6;
    private static final int SAY_RATE = 7;
    private static final int SAY_COUNTS = 8;
    private static final int SAY_OFFSET = 9;
    private static final int SAY_BIG = 10;
    private static final int SAY_STRESS = 11;
    private static final int SAY_PAY = 12;
    private static final int SAY_TAKE = 13;
    private static final int SAY_GIVE = 14;
    private static final int SAY_ENDOW = 15;
    private static final int SAY_PRICE = 16;
    private static final int SAY_TRADE = 17;
    private static final int SAY_CALL = 18;
    private static final int SAY_SELL = 19;
    private static final int SAY_TEAR = 20;
    private static final int SAY_MOVE = 21;
    private static final int SAY_USE = 22;
    private static final int SAY_DELIVER = 23;

    private final Spread spread = new Spread();
    private final Desk desk = new Desk(spread);
    private final Settling settling = new Settling(spread);
    private final House now = new House();
    // Where words are played again and scenarios are played, so that the house itself stays as it is.
    private final House copy = new House();
    private final Diary diary = new Diary();
    private final Steps steps = new Steps();
    private final StringBuilder text = new StringBuilder();
    private int knocks;

    public Marginhouse() {
    }

    // ---- members, series, scenarios

    public int member(boolean isLink) throws IllegalStateException {
        return say(SAY_MEMBER, isLink ? 1 : 0, 0, 0, 0, 0);
    }

    public int client(int member) throws IndexOutOfBoundsException, IllegalStateException {
        return say(SAY_CLIENT, member, 0, 0, 0, 0);
    }

    public int limit(int member, int lots) throws IndexOutOfBoundsException, IllegalArgumentException {
        return say(SAY_LIMIT, member, lots, 0, 0, 0);
    }

    public int contract(int good, int month, int price) throws IllegalArgumentException, IllegalStateException {
        return say(SAY_CONTRACT, good, month, price, 0, 0);
    }

    public int option(int contract, boolean isCall, int strike, int price)
            throws IndexOutOfBoundsException, IllegalArgumentException, IllegalStateException {
        return say(SAY_OPTION, contract, isCall ? CALL : PUT, strike, price, 0);
    }

    public int scenario() throws IllegalStateException {
        return say(SAY_SCENARIO, 0, 0, 0, 0, 0);
    }

    public int shift(int scenario, int good, int shift, int tilt)
            throws IndexOutOfBoundsException, IllegalArgumentException {
        return say(SAY_SHIFT, scenario, good, shift, tilt, 0);
    }

    public int rate(int rate) throws IllegalArgumentException {
        return say(SAY_RATE, rate, 0, 0, 0, 0);
    }

    public int counts(int money, int tenths) throws IllegalArgumentException {
        return say(SAY_COUNTS, money, tenths, 0, 0, 0);
    }

    public int offset(int tenths) throws IllegalArgumentException {
        return say(SAY_OFFSET, tenths, 0, 0, 0, 0);
    }

    public int big(int good, int lots, int more) throws IllegalArgumentException {
        return say(SAY_BIG, good, lots, more, 0, 0);
    }

    public int stress(int tenths) throws IllegalArgumentException {
        return say(SAY_STRESS, tenths, 0, 0, 0, 0);
    }

    // ---- the day

    public int pay(int account, int money, int amount) throws IndexOutOfBoundsException, IllegalArgumentException {
        return say(SAY_PAY, account, money, amount, 0, 0);
    }

    public int take(int account, int money, int amount)
            throws IndexOutOfBoundsException, IllegalArgumentException, IllegalStateException {
        return say(SAY_TAKE, account, money, amount, 0, 0);
    }

    public int give(int member, int money, int amount)
            throws IndexOutOfBoundsException, IllegalArgumentException, IllegalStateException {
        return say(SAY_GIVE, member, money, amount, 0, 0);
    }

    public int endow(int money, int amount) throws IllegalArgumentException {
        return say(SAY_ENDOW, money, amount, 0, 0, 0);
    }

    public int price(int series, int price)
            throws IndexOutOfBoundsException, IllegalArgumentException, IllegalStateException {
        return say(SAY_PRICE, series, price, 0, 0, 0);
    }

    public int trade(int buyer, int seller, int series, int lots, int price)
            throws IndexOutOfBoundsException, IllegalArgumentException, IllegalStateException {
        return say(SAY_TRADE, buyer, seller, series, lots, price);
    }

    public int call(int account) throws IndexOutOfBoundsException, IllegalStateException {
        return say(SAY_CALL, account, 0, 0, 0, 0);
    }

    public int settle() throws IllegalStateException {
        if (now.day >= LAST_DAY) {
            throw new IllegalStateException("the last day can not be settled");
        }
        steps.keep(now, diary.count);
        int out = settling.run(now);
        diary.begin(now);
        steps.put(NONE, 0);
        return out;
    }

    public int correct(int trade, int price) throws IndexOutOfBoundsException, IllegalArgumentException {
        int word = diary.wordOfTrade(now.day, trade);
        if (word == NONE) {
            throw new IndexOutOfBoundsException("there is no such trade");
        }
        if (!isPrice(price)) {
            throw new IllegalArgumentException("a price is 0 to 99");
        }
        if (!diary.replay(copy, desk, now.day, word, price)) {
            return REFUSED;
        }
        int before = diary.part(word, Diary.TRADE_PRICE);
        steps.keep(now, diary.count);
        now.copyFrom(copy);
        diary.setPart(word, Diary.TRADE_PRICE, price);
        steps.put(word, before);
        return before;
    }

    // ---- who is out, options, delivery

    public int sell(int account, int series, int taker, int price)
            throws IndexOutOfBoundsException, IllegalArgumentException, IllegalStateException {
        return say(SAY_SELL, account, series, taker, price, 0);
    }

    public int tear(int series) throws IndexOutOfBoundsException {
        return say(SAY_TEAR, series, 0, 0, 0, 0);
    }

    public int move(int account, int member) throws IndexOutOfBoundsException, IllegalStateException {
        return say(SAY_MOVE, account, member, 0, 0, 0);
    }

    public int use(int account, int series, int lots, int start)
            throws IndexOutOfBoundsException, IllegalArgumentException, IllegalStateException {
        return say(SAY_USE, account, series, lots, start, 0);
    }

    public int deliver(int account, int series, int lots, int start)
            throws IndexOutOfBoundsException, IllegalArgumentException, IllegalStateException {
        return say(SAY_DELIVER, account, series, lots, start, 0);
    }

    public int undo() throws IllegalStateException {
        if (steps.count == 0) {
            throw new IllegalStateException("no step can be undone");
        }
        steps.back(now, diary);
        return steps.count;
    }

    public int knock() {
        knocks++;
        return knocks;
    }

    // ---- what is asked

    public int ofMember(int member, int what) throws IndexOutOfBoundsException, IllegalArgumentException {
        needMember(member);
        needWhat(what, 8);
        Members members = now.members;
        switch (what) {
            case 0:
                return members.link[member];
            case 1:
                return members.state[member];
            case 2:
                return members.lots[member];
            case 3:
                return members.fund[member * MONEYS];
            case 4:
                return members.fund[member * MONEYS + 1];
            case 5:
                return now.riskOf(member);
            case 6:
                return now.shareOf(member, spread);
            case 7:
                return Math.max(0, now.shareOf(member, spread) - now.fundOf(member));
            default:
                return now.accounts.countOf(member);
        }
    }

    public int ofAccount(int account, int what) throws IndexOutOfBoundsException, IllegalArgumentException {
        needAccount(account);
        needWhat(what, 9);
        Accounts accounts = now.accounts;
        switch (what) {
            case 0:
                return accounts.balance[account * MONEYS];
            case 1:
                return accounts.balance[account * MONEYS + 1];
            case 2:
                return accounts.due[account * MONEYS];
            case 3:
                return accounts.due[account * MONEYS + 1];
            case 4:
                return now.depositOf(account);
            case 5:
                return now.coverOf(account);
            case 6:
                return now.lackOf(account);
            case 7:
                return now.addOf(account);
            case 8:
                return accounts.callDay[account];
            default:
                return now.worstScenarioOf(account);
        }
    }

    public int position(int account, int series) throws IndexOutOfBoundsException {
        needAccount(account);
        needSeries(series);
        return now.accounts.position[account * SERIES + series];
    }

    public int loss(int account, int scenario) throws IndexOutOfBoundsException {
        needAccount(account);
        needScenario(scenario);
        return now.lossOf(account, scenario);
    }

    public int ofSeries(int series, int what) throws IndexOutOfBoundsException, IllegalArgumentException {
        needSeries(series);
        needWhat(what, 7);
        Listing listing = now.listing;
        switch (what) {
            case 0:
                return listing.kind[series];
            case 1:
                return listing.good[series];
            case 2:
                return listing.month[series];
            case 3:
                return listing.price[series];
            case 4:
                return listing.strike[series];
            case 5:
                return listing.contract[series];
            case 6:
                return listing.told[series];
            default:
                return now.accounts.lotsHeld(series);
        }
    }

    public int moved(int scenario, int series) throws IndexOutOfBoundsException {
        needScenario(scenario);
        needSeries(series);
        return now.listing.moves[scenario * SERIES + series];
    }

    public String calls() {
        writeCalls();
        return text.toString();
    }

    public int borne(int money, int what) throws IllegalArgumentException {
        needMoney(money);
        needWhat(what, 4);
        return now.till.borne[money * RUNGS + what];
    }

    public int total(int money, int what) throws IllegalArgumentException {
        needMoney(money);
        needWhat(what, 6);
        switch (what) {
            case 0:
                return now.accounts.sumOfBalances(money);
            case 1:
                return now.members.sumOfFund(money);
            case 2:
                return now.till.part[money];
            case 3:
                return now.till.paidIn[money];
            case 4:
                return now.till.paidOut[money];
            case 5:
                return now.accounts.sumOfDues(money, 1);
            default:
                return now.accounts.sumOfDues(money, -1);
        }
    }

    public int play(int scenario, int times, int what) throws IndexOutOfBoundsException, IllegalArgumentException {
        needScenario(scenario);
        if (times < 1 || times > 9) {
            throw new IllegalArgumentException("a scenario is played 1 to 9 times");
        }
        needWhat(what, 4);
        int out = playOnCopy(scenario, times);
        return what == 0 ? out : ofPlayed(what);
    }

    public int ofTrade(int trade, int what) throws IndexOutOfBoundsException, IllegalArgumentException {
        int word = diary.wordOfTrade(now.day, trade);
        if (word == NONE) {
            throw new IndexOutOfBoundsException("there is no such trade");
        }
        needWhat(what, 4);
        return diary.part(word, what + 1);
    }

    public String book(int account) throws IndexOutOfBoundsException {
        needAccount(account);
        writeBook(account);
        return text.toString();
    }

    public String open() {
        writeOpen();
        return text.toString();
    }

    public int house(int what) throws IllegalArgumentException {
        needWhat(what, 17);
        switch (what) {
            case 0:
                return now.members.count;
            case 1:
                return now.members.countOfGood();
            case 2:
                return now.accounts.count();
            case 3:
                return now.listing.count;
            case 4:
                return now.terms.scenarios;
            case 5:
                return now.day;
            case 6:
                return now.trades;
            case 7:
                return diary.wordsOf(now.day);
            case 8:
                return now.accounts.countOfCalls();
            case 9:
                return now.terms.rate;
            case 10:
                return now.terms.offset;
            case 11:
                return now.terms.stress;
            case 12:
                return now.targetOf(spread);
            case 13:
            case 14:
            case 15:
                return now.till.delivered[what - 13];
            case 16:
                return steps.count;
            default:
                return knocks;
        }
    }

    // An account has one place for a call, so two calls of one need no look here.
    public boolean isSound() {
        return isMoneySound(0)
                && isMoneySound(1)
                && now.accounts.isClosed()
                && isNothingBelowZero()
                && diary.replay(copy, desk, now.day, NONE, 0)
                && copy.accounts.isLike(now.accounts);
    }

    public long digest() {
        long d = 6902;
        for (int what = 0; what <= 17; what++) {
            d = d * 31 + house(what);
        }
        for (int member = 0; member < now.members.count; member++) {
            for (int what = 0; what <= 8; what++) {
                d = d * 31 + ofMember(member, what);
            }
        }
        d = mixAccounts(d);
        d = mixSeries(d);
        writeCalls();
        d = d * 31 + text.length();
        writeOpen();
        d = d * 31 + text.length();
        d = mixMoneys(d);
        d = mixPlays(d);
        d = mixTrades(d);
        return d * 31 + (isSound() ? 1 : 0);
    }

    private long mixAccounts(long begun) {
        long d = begun;
        for (int account = 0; account < ACCOUNTS; account++) {
            if (!now.accounts.has(account)) {
                continue;
            }
            for (int what = 0; what <= 9; what++) {
                d = d * 31 + ofAccount(account, what);
            }
            for (int series = 0; series < now.listing.count; series++) {
                d = d * 31 + position(account, series);
            }
            for (int scenario = 0; scenario < now.terms.scenarios; scenario++) {
                d = d * 31 + loss(account, scenario);
            }
            writeBook(account);
            d = d * 31 + text.length();
        }
        return d;
    }

    private long mixSeries(long begun) {
        long d = begun;
        for (int series = 0; series < now.listing.count; series++) {
            for (int what = 0; what <= 7; what++) {
                d = d * 31 + ofSeries(series, what);
            }
            for (int scenario = 0; scenario < now.terms.scenarios; scenario++) {
                d = d * 31 + moved(scenario, series);
            }
        }
        return d;
    }

    private long mixMoneys(long begun) {
        long d = begun;
        for (int money = 0; money < MONEYS; money++) {
            for (int what = 0; what <= 4; what++) {
                d = d * 31 + borne(money, what);
            }
            for (int what = 0; what <= 6; what++) {
                d = d * 31 + total(money, what);
            }
        }
        return d;
    }

    private long mixPlays(long begun) {
        long d = begun;
        for (int scenario = 0; scenario < now.terms.scenarios; scenario++) {
            d = d * 31 + playOnCopy(scenario, 2);
            for (int what = 1; what <= 4; what++) {
                d = d * 31 + ofPlayed(what);
            }
        }
        return d;
    }

    private long mixTrades(long begun) {
        long d = begun;
        for (int word = diary.firstOf(now.day); word < diary.count; word++) {
            for (int what = 0; what <= 4 && diary.isTrade(word); what++) {
                d = d * 31 + diary.part(word, what + 1);
            }
        }
        return d;
    }

    /** Answers how many members are out by it. */
    private int playOnCopy(int scenario, int times) {
        copy.copyFrom(now);
        copy.playPrices(scenario, times);
        return settling.run(copy);
    }

    private int ofPlayed(int what) {
        int[] borne = copy.till.borne;
        switch (what) {
            case 1:
                return borne[SHORT];
            case 2:
                return borne[RUNGS + SHORT];
            case 3:
                return borne[BY_GAINS] + borne[RUNGS + BY_GAINS];
            default:
                return copy.accounts.countOfCalls();
        }
    }

    // ---- what the calls have in common

    /** Says a word to the house: it is a step, if it is done. */
    private int say(int kind, int a, int b, int c, int d, int e) {
        if (diary.isFull()) {
            return REFUSED;
        }
        steps.keep(now, diary.count);
        int got = desk.perform(now, kind, a, b, c, d, e);
        if (got == NOT_DONE) {
            return REFUSED;
        }
        fail(got);
        diary.add(kind, a, b, c, d, e);
        steps.put(NONE, 0);
        return got;
    }

    private static void fail(int answer) {
        if (answer == NO_SUCH) {
            throw new IndexOutOfBoundsException("there is no such number");
        }
        if (answer == BAD_VALUE) {
            throw new IllegalArgumentException("a value is not allowed");
        }
        if (answer == BAD_STATE) {
            throw new IllegalStateException("the house is not in the state for this");
        }
    }

    private static boolean isFault(int answer) {
        return answer == NO_SUCH || answer == BAD_VALUE || answer == BAD_STATE || answer == NOT_DONE;
    }

    private void needMember(int member) {
        if (!now.members.has(member)) {
            throw new IndexOutOfBoundsException("there is no such member");
        }
    }

    private void needAccount(int account) {
        if (!now.accounts.has(account)) {
            throw new IndexOutOfBoundsException("there is no such account");
        }
    }

    private void needSeries(int series) {
        if (!now.listing.has(series)) {
            throw new IndexOutOfBoundsException("there is no such series");
        }
    }

    private void needScenario(int scenario) {
        if (!now.terms.has(scenario)) {
            throw new IndexOutOfBoundsException("there is no such scenario");
        }
    }

    private static void needMoney(int money) {
        if (!isMoney(money)) {
            throw new IllegalArgumentException("a money is 0 or 1");
        }
    }

    private static void needWhat(int what, int most) {
        if (what < 0 || what > most) {
            throw new IllegalArgumentException("this is nothing that can be asked");
        }
    }

    private static boolean isMoney(int money) {
        return money >= 0 && money < MONEYS;
    }

    private static boolean isGoods(int good) {
        return good >= 0 && good < GOODS;
    }

    private static boolean isPrice(int price) {
        return price >= 0 && price <= MOST_PRICE;
    }

    private static boolean isLots(int lots) {
        return lots >= 1 && lots <= MOST_LOTS;
    }

    private static boolean isAmount(int amount) {
        return amount >= 1 && amount <= MOST_AMOUNT;
    }

    private static boolean isTenths(int tenths) {
        return tenths >= 0 && tenths <= 10;
    }

    private static int unsigned(int number) {
        return number < 0 ? -number : number;
    }

    private boolean isMoneySound(int money) {
        Till till = now.till;
        int kept = now.accounts.sumOfBalances(money) + now.members.sumOfFund(money) + till.part[money];
        int first = money * RUNGS;
        int borne = till.borne[first + BY_OWN_FUND] + till.borne[first + BY_PART]
                + till.borne[first + BY_OTHERS] + till.borne[first + BY_GAINS];
        return kept == till.paidIn[money] - till.paidOut[money]
                && now.accounts.sumOfDues(money, 1) == now.accounts.sumOfDues(money, -1)
                && borne == till.borne[first + SHORT];
    }

    private boolean isNothingBelowZero() {
        return isNoneBelowZero(now.accounts.balance)
                && isNoneBelowZero(now.members.fund)
                && isNoneBelowZero(now.till.part);
    }

    private static boolean isNoneBelowZero(int[] row) {
        for (int number : row) {
            if (number < 0) {
                return false;
            }
        }
        return true;
    }

    private void writeCalls() {
        text.setLength(0);
        int call = now.accounts.nextCall(NONE);
        for (int i = 0; i < ACCOUNTS && call != NONE; i++) {
            writeBlank();
            text.append(call % ACCOUNTS).append('@').append(call / ACCOUNTS);
            call = now.accounts.nextCall(call);
        }
    }

    private void writeBook(int account) {
        text.setLength(0);
        for (int series = 0; series < now.listing.count; series++) {
            int lots = now.accounts.position[account * SERIES + series];
            if (lots != 0) {
                writeBlank();
                text.append(series).append(':').append(lots);
            }
        }
    }

    private void writeOpen() {
        text.setLength(0);
        for (int account = 0; account < ACCOUNTS; account++) {
            if (now.accounts.has(account) && !now.isFree(account) && now.accounts.isInvolved(account)) {
                writeBlank();
                text.append(account);
            }
        }
    }

    private void writeBlank() {
        if (text.length() > 0) {
            text.append(' ');
        }
    }

    /** Weights, and what each of them gets of an amount that is spread over them. */
    private static final class Spread {
        final int[] weight = new int[ACCOUNTS];
        final int[] part = new int[ACCOUNTS];
        long sum;

        void clear() {
            Arrays.fill(weight, 0);
            sum = 0;
        }

        void put(int at, int amount) {
            if (at >= 0 && at < ACCOUNTS) {
                sum += amount - weight[at];
                weight[at] = amount;
            }
        }

        /** The row begins with the number start, so that one is the first to get of what is left. */
        void run(int amount, int start) {
            Arrays.fill(part, 0);
            if (sum <= 0 || start < 0) {
                return;
            }
            int left = amount;
            for (int at = 0; at < ACCOUNTS; at++) {
                part[at] = (int) ((long) amount * weight[at] / sum);
                left -= part[at];
            }
            for (int i = 0; i < ACCOUNTS && left > 0; i++) {
                int at = (start % ACCOUNTS + i) % ACCOUNTS;
                if (weight[at] > 0) {
                    part[at]++;
                    left--;
                }
            }
        }

        int sharers() {
            int count = 0;
            for (int at = 0; at < ACCOUNTS; at++) {
                if (part[at] > 0) {
                    count++;
                }
            }
            return count;
        }
    }

    private static final class Members {
        int count;
        final int[] link = new int[MEMBERS];
        final int[] state = new int[MEMBERS];
        final int[] lots = new int[MEMBERS];
        final int[] fund = new int[MEMBERS * MONEYS];

        void copyFrom(Members from) {
            count = from.count;
            System.arraycopy(from.link, 0, link, 0, MEMBERS);
            System.arraycopy(from.state, 0, state, 0, MEMBERS);
            System.arraycopy(from.lots, 0, lots, 0, MEMBERS);
            System.arraycopy(from.fund, 0, fund, 0, MEMBERS * MONEYS);
        }

        boolean has(int member) {
            return member >= 0 && member < count && member < MEMBERS;
        }

        boolean isGood(int member) {
            return has(member) && state[member] == GOOD;
        }

        /** Whether it may have clients and something in the fund. */
        boolean isGoodAndNoLink(int member) {
            return isGood(member) && link[member] == 0;
        }

        int countOfGood() {
            int good = 0;
            for (int member = 0; member < count; member++) {
                if (isGood(member)) {
                    good++;
                }
            }
            return good;
        }

        int sumOfFund(int money) {
            int sum = 0;
            for (int member = 0; member < MEMBERS; member++) {
                sum += fund[member * MONEYS + money];
            }
            return sum;
        }
    }

    private static final class Accounts {
        final int[] there = new int[ACCOUNTS];
        final int[] balance = new int[ACCOUNTS * MONEYS];
        final int[] due = new int[ACCOUNTS * MONEYS];
        final int[] position = new int[ACCOUNTS * SERIES];
        final int[] callDay = new int[ACCOUNTS];

        Accounts() {
            Arrays.fill(callDay, NONE);
        }

        void copyFrom(Accounts from) {
            System.arraycopy(from.there, 0, there, 0, ACCOUNTS);
            System.arraycopy(from.balance, 0, balance, 0, ACCOUNTS * MONEYS);
            System.arraycopy(from.due, 0, due, 0, ACCOUNTS * MONEYS);
            System.arraycopy(from.position, 0, position, 0, ACCOUNTS * SERIES);
            System.arraycopy(from.callDay, 0, callDay, 0, ACCOUNTS);
        }

        boolean has(int account) {
            return account >= 0 && account < ACCOUNTS && there[account] == 1;
        }

        int count() {
            int sum = 0;
            for (int account = 0; account < ACCOUNTS; account++) {
                sum += there[account];
            }
            return sum;
        }

        int countOf(int member) {
            int sum = 0;
            for (int slot = 0; slot < SLOTS; slot++) {
                sum += there[member * SLOTS + slot];
            }
            return sum;
        }

        /** The first free account of those that are apart. */
        int freeOf(int member) {
            for (int slot = FIRST_APART; slot < SLOTS; slot++) {
                if (there[member * SLOTS + slot] == 0) {
                    return member * SLOTS + slot;
                }
            }
            return NONE;
        }

        void carry(int from, int to) {
            there[to] = 1;
            there[from] = 0;
            for (int money = 0; money < MONEYS; money++) {
                balance[to * MONEYS + money] = balance[from * MONEYS + money];
                balance[from * MONEYS + money] = 0;
                due[to * MONEYS + money] = due[from * MONEYS + money];
                due[from * MONEYS + money] = 0;
            }
            for (int series = 0; series < SERIES; series++) {
                position[to * SERIES + series] = position[from * SERIES + series];
                position[from * SERIES + series] = 0;
            }
            callDay[from] = NONE;
        }

        void putCall(int account, int day) {
            if (callDay[account] == NONE || day < callDay[account]) {
                callDay[account] = day;
            }
        }

        int countOfCalls() {
            int sum = 0;
            for (int account = 0; account < ACCOUNTS; account++) {
                if (callDay[account] != NONE) {
                    sum++;
                }
            }
            return sum;
        }

        /** The call behind another one in their order, each as its day * ACCOUNTS + account. */
        int nextCall(int behind) {
            int next = NONE;
            for (int account = 0; account < ACCOUNTS; account++) {
                int call = callDay[account] * ACCOUNTS + account;
                if (callDay[account] != NONE && call > behind && (next == NONE || call < next)) {
                    next = call;
                }
            }
            return next;
        }

        boolean isInvolved(int account) {
            for (int series = 0; series < SERIES; series++) {
                if (position[account * SERIES + series] != 0) {
                    return true;
                }
            }
            return false;
        }

        int lotsHeld(int series) {
            int sum = 0;
            for (int account = 0; account < ACCOUNTS; account++) {
                int lots = position[account * SERIES + series];
                if (lots > 0) {
                    sum += lots;
                }
            }
            return sum;
        }

        /** Whether the positions of each series sum to 0. */
        boolean isClosed() {
            for (int series = 0; series < SERIES; series++) {
                int sum = 0;
                for (int account = 0; account < ACCOUNTS; account++) {
                    sum += position[account * SERIES + series];
                }
                if (sum != 0) {
                    return false;
                }
            }
            return true;
        }

        int sumOfBalances(int money) {
            int sum = 0;
            for (int account = 0; account < ACCOUNTS; account++) {
                sum += balance[account * MONEYS + money];
            }
            return sum;
        }

        /** The sum, without sign, of the dues that have this sign. */
        int sumOfDues(int money, int sign) {
            int sum = 0;
            for (int account = 0; account < ACCOUNTS; account++) {
                int owed = due[account * MONEYS + money] * sign;
                if (owed > 0) {
                    sum += owed;
                }
            }
            return sum;
        }

        boolean isLike(Accounts other) {
            return isSame(position, other.position) && isSame(balance, other.balance) && isSame(due, other.due);
        }

        private static boolean isSame(int[] one, int[] other) {
            for (int i = 0; i < one.length && i < other.length; i++) {
                if (one[i] != other[i]) {
                    return false;
                }
            }
            return one.length == other.length;
        }
    }

    /** The series, and by how much each moves in each scenario. */
    private static final class Listing {
        int count;
        final int[] kind = new int[SERIES];
        final int[] good = new int[SERIES];
        final int[] month = new int[SERIES];
        final int[] price = new int[SERIES];
        final int[] strike = new int[SERIES];
        final int[] contract = new int[SERIES];
        final int[] told = new int[SERIES];
        // Asked far more often than it changes; House.tellMoves keeps it right.
        final int[] moves = new int[SCENARIOS * SERIES];

        void copyFrom(Listing from) {
            count = from.count;
            System.arraycopy(from.kind, 0, kind, 0, SERIES);
            System.arraycopy(from.good, 0, good, 0, SERIES);
            System.arraycopy(from.month, 0, month, 0, SERIES);
            System.arraycopy(from.price, 0, price, 0, SERIES);
            System.arraycopy(from.strike, 0, strike, 0, SERIES);
            System.arraycopy(from.contract, 0, contract, 0, SERIES);
            System.arraycopy(from.told, 0, told, 0, SERIES);
            System.arraycopy(from.moves, 0, moves, 0, SCENARIOS * SERIES);
        }

        boolean has(int series) {
            return series >= 0 && series < count && series < SERIES;
        }

        boolean isContract(int series) {
            return has(series) && kind[series] == CONTRACT;
        }

        int add(int newKind, int newGood, int newMonth, int newPrice) {
            if (count >= SERIES) {
                return BAD_STATE;
            }
            kind[count] = newKind;
            good[count] = newGood;
            month[count] = newMonth;
            price[count] = newPrice;
            strike[count] = NONE;
            contract[count] = NONE;
            told[count] = 1;
            count++;
            return count - 1;
        }

        int moneyOf(int series) {
            return good[series] == GOODS - 1 ? 1 : 0;
        }

        /** What using an option brings at a price of its contract, also below 0. */
        int worthIfUsed(int series, int contractPrice) {
            return kind[series] == PUT ? strike[series] - contractPrice : contractPrice - strike[series];
        }
    }

    /** By what deposits and the fund are reckoned. */
    private static final class Terms {
        int scenarios;
        int rate = 2;
        int offset = 5;
        int stress = 10;
        final int[] shift = new int[SCENARIOS * GOODS];
        final int[] tilt = new int[SCENARIOS * GOODS];
        final int[] counts = new int[MONEYS];
        final int[] big = new int[GOODS];
        final int[] more = new int[GOODS];

        Terms() {
            Arrays.fill(counts, 10);
            Arrays.fill(big, 20);
            Arrays.fill(more, 1);
        }

        void copyFrom(Terms from) {
            scenarios = from.scenarios;
            rate = from.rate;
            offset = from.offset;
            stress = from.stress;
            System.arraycopy(from.shift, 0, shift, 0, SCENARIOS * GOODS);
            System.arraycopy(from.tilt, 0, tilt, 0, SCENARIOS * GOODS);
            System.arraycopy(from.counts, 0, counts, 0, MONEYS);
            System.arraycopy(from.big, 0, big, 0, GOODS);
            System.arraycopy(from.more, 0, more, 0, GOODS);
        }

        boolean has(int scenario) {
            return scenario >= 0 && scenario < scenarios && scenario < SCENARIOS;
        }
    }

    /** What the house itself has and remembers of its money and goods. */
    private static final class Till {
        final int[] part = new int[MONEYS];
        final int[] paidIn = new int[MONEYS];
        final int[] paidOut = new int[MONEYS];
        final int[] borne = new int[MONEYS * RUNGS];
        final int[] delivered = new int[GOODS];

        void copyFrom(Till from) {
            System.arraycopy(from.part, 0, part, 0, MONEYS);
            System.arraycopy(from.paidIn, 0, paidIn, 0, MONEYS);
            System.arraycopy(from.paidOut, 0, paidOut, 0, MONEYS);
            System.arraycopy(from.borne, 0, borne, 0, MONEYS * RUNGS);
            System.arraycopy(from.delivered, 0, delivered, 0, GOODS);
        }
    }

    /** All that can be undone, and what is reckoned from it. */
    private static final class House {
        final Members members = new Members();
        final Accounts accounts = new Accounts();
        final Listing listing = new Listing();
        final Terms terms = new Terms();
        final Till till = new Till();
        int day;
        int trades;

        void copyFrom(House from) {
            members.copyFrom(from.members);
            accounts.copyFrom(from.accounts);
            listing.copyFrom(from.listing);
            terms.copyFrom(from.terms);
            till.copyFrom(from.till);
            day = from.day;
            trades = from.trades;
        }

        boolean isFree(int account) {
            return account >= 0 && members.isGood(account / SLOTS);
        }

        void tellMoves() {
            for (int scenario = 0; scenario < terms.scenarios; scenario++) {
                for (int series = 0; series < listing.count; series++) {
                    listing.moves[scenario * SERIES + series] = moveOf(scenario, series, 1);
                }
            }
        }

        /** By how much a series moves: an option by what it is worth, as its contract moves. */
        private int moveOf(int scenario, int series, int times) {
            int at = scenario * GOODS + listing.good[series];
            if (at < 0 || at >= SCENARIOS * GOODS) {
                return 0;
            }
            int by = times * (terms.shift[at] + terms.tilt[at] * listing.month[series]);
            int contract = listing.contract[series];
            if (contract < 0 || contract >= SERIES) {
                return by;
            }
            int before = listing.worthIfUsed(series, listing.price[contract]);
            int after = listing.worthIfUsed(series, listing.price[contract] + by);
            return (after > 0 ? after : 0) - (before > 0 ? before : 0);
        }

        /** From the last series on: an option comes behind its contract, and moves by that one's price before. */
        void playPrices(int scenario, int times) {
            for (int series = listing.count - 1; series >= 0; series--) {
                movePrice(series, moveOf(scenario, series, times));
            }
            tellMoves();
        }

        void movePrice(int series, int by) {
            int money = listing.moneyOf(series);
            for (int account = 0; account < ACCOUNTS; account++) {
                accounts.due[account * MONEYS + money] += accounts.position[account * SERIES + series] * by;
            }
            listing.price[series] += by;
        }

        int lossOf(int account, int scenario) {
            int sum = 0;
            for (int good = 0; good < GOODS; good++) {
                int gain = 0;
                for (int series = 0; series < listing.count; series++) {
                    if (listing.good[series] == good) {
                        int lots = accounts.position[account * SERIES + series];
                        gain += lots * listing.moves[scenario * SERIES + series];
                    }
                }
                gain *= good == GOODS - 1 ? terms.rate : 1;
                sum += gain > 0 ? gain * terms.offset / 10 : gain;
            }
            return sum < 0 ? -sum : 0;
        }

        int addOf(int account) {
            int sum = 0;
            for (int good = 0; good < GOODS; good++) {
                int lots = 0;
                for (int series = 0; series < listing.count; series++) {
                    if (listing.good[series] == good) {
                        int held = accounts.position[account * SERIES + series];
                        lots += held < 0 ? -held : held;
                    }
                }
                if (lots > terms.big[good]) {
                    int worth = good == GOODS - 1 ? terms.rate : 1;
                    sum += (lots - terms.big[good]) * terms.more[good] * worth;
                }
            }
            return sum;
        }

        int depositOf(int account) {
            int greatest = 0;
            for (int scenario = 0; scenario < terms.scenarios; scenario++) {
                int lost = lossOf(account, scenario);
                if (lost > greatest) {
                    greatest = lost;
                }
            }
            return greatest + addOf(account);
        }

        int worstScenarioOf(int account) {
            int greatest = 0;
            int worst = NONE;
            for (int scenario = 0; scenario < terms.scenarios; scenario++) {
                int lost = lossOf(account, scenario);
                if (lost > greatest) {
                    greatest = lost;
                    worst = scenario;
                }
            }
            return worst;
        }

        int coverOf(int account) {
            int sum = 0;
            for (int money = 0; money < MONEYS; money++) {
                int worth = money == 1 ? terms.rate : 1;
                int at = account * MONEYS + money;
                sum += accounts.balance[at] * worth * terms.counts[money] / 10;
                if (accounts.due[at] < 0) {
                    sum += accounts.due[at] * worth;
                }
            }
            return sum;
        }

        int lackOf(int account) {
            int lack = depositOf(account) - coverOf(account);
            return lack > 0 ? lack : 0;
        }

        int riskOf(int member) {
            int sum = 0;
            for (int account = member * SLOTS; account < (member + 1) * SLOTS; account++) {
                if (accounts.has(account)) {
                    sum += depositOf(account);
                }
            }
            return sum;
        }

        /** The target of the fund; the risks over which it is spread are the weights then. */
        int targetOf(Spread spread) {
            spread.clear();
            long first = 0;
            long second = 0;
            for (int member = 0; member < members.count; member++) {
                if (members.isGoodAndNoLink(member)) {
                    int risk = riskOf(member);
                    spread.put(member, risk);
                    second = Math.max(second, Math.min(first, risk));
                    first = Math.max(first, risk);
                }
            }
            return (int) (((first + second) * terms.stress + 9) / 10);
        }

        int shareOf(int member, Spread spread) {
            spread.run(targetOf(spread), 0);
            return spread.part[member];
        }

        int fundOf(int member) {
            return members.fund[member * MONEYS] + members.fund[member * MONEYS + 1] * terms.rate;
        }
    }

    /** Where words are said to a house. A word that can not be done answers a fault, and changes nothing. */
    private static final class Desk {
        private final Spread spread;

        Desk(Spread spread) {
            this.spread = spread;
        }

        /** The arguments a to e stand as in the face, each kind has as many as it needs. */
        int perform(House h, int kind, int a, int b, int c, int d, int e) {
            switch (kind) {
                case SAY_MEMBER: return addMember(h, a);
                case SAY_CLIENT: return addClient(h, a);
                case SAY_LIMIT: return tellLimit(h, a, b);
                case SAY_CONTRACT: return addContract(h, a, b, c);
                case SAY_OPTION: return addOption(h, a, b, c, d);
                case SAY_SCENARIO: return addScenario(h);
                case SAY_SHIFT: return tellShift(h, a, b, c, d);
                case SAY_RATE: return tellRate(h, a);
                case SAY_COUNTS: return tellCounts(h, a, b);
                case SAY_OFFSET: return tellOffset(h, a);
                case SAY_BIG: return tellBig(h, a, b, c);
                case SAY_STRESS: return tellStress(h, a);
                case SAY_PAY: return payIn(h, a, b, c);
                case SAY_TAKE: return takeOut(h, a, b, c);
                case SAY_GIVE: return giveToFund(h, a, b, c);
                case SAY_ENDOW: return addToPart(h, a, b);
                case SAY_PRICE: return tellPrice(h, a, b);
                case SAY_TRADE: return makeTrade(h, a, b, c, d, e);
                case SAY_CALL: return makeCall(h, a);
                case SAY_SELL: return sellPosition(h, a, b, c, d);
                case SAY_TEAR: return tearUp(h, a);
                case SAY_MOVE: return moveAccount(h, a, b);
                case SAY_USE: return useOption(h, a, b, c, d);
                case SAY_DELIVER: return deliverGoods(h, a, b, c, d);
                default: return NOT_DONE;
            }
        }

        private static int addMember(House h, int link) {
            Members members = h.members;
            int member = members.count;
            if (member >= MEMBERS) {
                return BAD_STATE;
            }
            members.link[member] = link;
            members.state[member] = GOOD;
            members.lots[member] = 50;
            members.count++;
            h.accounts.there[member * SLOTS + OWN] = 1;
            if (link == 0) {
                h.accounts.there[member * SLOTS + TOGETHER] = 1;
            }
            return member;
        }

        private static int addClient(House h, int member) {
            if (!h.members.has(member)) {
                return NO_SUCH;
            }
            if (!h.members.isGoodAndNoLink(member)) {
                return BAD_STATE;
            }
            int account = h.accounts.freeOf(member);
            if (account == NONE) {
                return NOT_DONE;
            }
            h.accounts.there[account] = 1;
            return account;
        }

        private static int tellLimit(House h, int member, int lots) {
            if (!h.members.has(member)) {
                return NO_SUCH;
            }
            if (lots < 1 || lots > MOST_LIMIT) {
                return BAD_VALUE;
            }
            int before = h.members.lots[member];
            h.members.lots[member] = lots;
            return before;
        }

        private static int addContract(House h, int good, int month, int price) {
            if (!isGoods(good) || month < 0 || month >= MONTHS || !isPrice(price)) {
                return BAD_VALUE;
            }
            int series = h.listing.add(CONTRACT, good, month, price);
            h.tellMoves();
            return series;
        }

        private static int addOption(House h, int contract, int kind, int strike, int price) {
            Listing listing = h.listing;
            if (!listing.has(contract)) {
                return NO_SUCH;
            }
            if (!listing.isContract(contract) || !isPrice(strike) || !isPrice(price)) {
                return BAD_VALUE;
            }
            int series = listing.add(kind, listing.good[contract], listing.month[contract], price);
            if (listing.has(series)) {
                listing.strike[series] = strike;
                listing.contract[series] = contract;
                h.tellMoves();
            }
            return series;
        }

        private static int addScenario(House h) {
            if (h.terms.scenarios >= SCENARIOS) {
                return BAD_STATE;
            }
            h.terms.scenarios++;
            return h.terms.scenarios - 1;
        }

        private static int tellShift(House h, int scenario, int good, int shift, int tilt) {
            if (!h.terms.has(scenario)) {
                return NO_SUCH;
            }
            if (!isGoods(good) || shift < -20 || shift > 20 || tilt < -5 || tilt > 5) {
                return BAD_VALUE;
            }
            int at = scenario * GOODS + good;
            int before = h.terms.shift[at];
            h.terms.shift[at] = shift;
            h.terms.tilt[at] = tilt;
            h.tellMoves();
            return before;
        }

        private static int tellRate(House h, int rate) {
            if (rate < 1 || rate > 9) {
                return BAD_VALUE;
            }
            int before = h.terms.rate;
            h.terms.rate = rate;
            return before;
        }

        private static int tellCounts(House h, int money, int tenths) {
            if (!isMoney(money) || !isTenths(tenths)) {
                return BAD_VALUE;
            }
            int before = h.terms.counts[money];
            h.terms.counts[money] = tenths;
            return before;
        }

        private static int tellOffset(House h, int tenths) {
            if (!isTenths(tenths)) {
                return BAD_VALUE;
            }
            int before = h.terms.offset;
            h.terms.offset = tenths;
            return before;
        }

        private static int tellBig(House h, int good, int lots, int more) {
            if (!isGoods(good) || lots < 0 || lots > MOST_LIMIT || more < 0 || more > 9) {
                return BAD_VALUE;
            }
            int before = h.terms.big[good];
            h.terms.big[good] = lots;
            h.terms.more[good] = more;
            return before;
        }

        private static int tellStress(House h, int tenths) {
            if (tenths < 0 || tenths > 50) {
                return BAD_VALUE;
            }
            int before = h.terms.stress;
            h.terms.stress = tenths;
            return before;
        }

        private static int payIn(House h, int account, int money, int amount) {
            if (!h.accounts.has(account)) {
                return NO_SUCH;
            }
            if (!isMoney(money) || !isAmount(amount)) {
                return BAD_VALUE;
            }
            h.till.paidIn[money] += amount;
            h.accounts.balance[account * MONEYS + money] += amount;
            return h.accounts.balance[account * MONEYS + money];
        }

        private static int takeOut(House h, int account, int money, int amount) {
            if (!h.accounts.has(account)) {
                return NO_SUCH;
            }
            if (!isMoney(money) || !isAmount(amount)) {
                return BAD_VALUE;
            }
            if (!h.isFree(account)) {
                return BAD_STATE;
            }
            int at = account * MONEYS + money;
            int before = h.accounts.balance[at];
            if (before < amount) {
                return NOT_DONE;
            }
            h.accounts.balance[at] = before - amount;
            if (h.lackOf(account) > 0) {
                h.accounts.balance[at] = before;
                return NOT_DONE;
            }
            h.till.paidOut[money] += amount;
            return before - amount;
        }

        private static int giveToFund(House h, int member, int money, int amount) {
            if (!h.members.has(member)) {
                return NO_SUCH;
            }
            if (!isMoney(money) || !isAmount(amount)) {
                return BAD_VALUE;
            }
            if (!h.members.isGoodAndNoLink(member)) {
                return BAD_STATE;
            }
            h.till.paidIn[money] += amount;
            h.members.fund[member * MONEYS + money] += amount;
            return h.members.fund[member * MONEYS + money];
        }

        private static int addToPart(House h, int money, int amount) {
            if (!isMoney(money) || !isAmount(amount)) {
                return BAD_VALUE;
            }
            h.till.paidIn[money] += amount;
            h.till.part[money] += amount;
            return h.till.part[money];
        }

        private static int tellPrice(House h, int series, int price) {
            if (!h.listing.has(series)) {
                return NO_SUCH;
            }
            if (!isPrice(price)) {
                return BAD_VALUE;
            }
            if (h.listing.told[series] == 1) {
                return BAD_STATE;
            }
            int before = h.listing.price[series];
            h.movePrice(series, price - before);
            h.listing.told[series] = 1;
            h.tellMoves();
            return before;
        }

        private static int makeTrade(House h, int buyer, int seller, int series, int lots, int price) {
            if (!h.accounts.has(buyer) || !h.accounts.has(seller) || !h.listing.has(series)) {
                return NO_SUCH;
            }
            if (buyer == seller || !isLots(lots) || !isPrice(price)) {
                return BAD_VALUE;
            }
            if (!h.isFree(buyer) || !h.isFree(seller)) {
                return BAD_STATE;
            }
            if (isAboveLimit(h, buyer, series, lots) || isAboveLimit(h, seller, series, -lots)) {
                return NOT_DONE;
            }
            changeHands(h, buyer, seller, series, lots, price);
            h.trades++;
            return h.trades - 1;
        }

        /** Whether the position would be above the limit, with so many lots more. */
        private static boolean isAboveLimit(House h, int account, int series, int lots) {
            int limit = h.members.lots[account / SLOTS];
            return unsigned(h.accounts.position[account * SERIES + series] + lots) > limit;
        }

        private static void changeHands(House h, int buyer, int seller, int series, int lots, int price) {
            Accounts accounts = h.accounts;
            int money = h.listing.moneyOf(series);
            int gain = lots * (h.listing.price[series] - price);
            accounts.position[buyer * SERIES + series] += lots;
            accounts.position[seller * SERIES + series] -= lots;
            accounts.due[buyer * MONEYS + money] += gain;
            accounts.due[seller * MONEYS + money] -= gain;
        }

        private static int makeCall(House h, int account) {
            if (!h.accounts.has(account)) {
                return NO_SUCH;
            }
            if (!h.isFree(account)) {
                return BAD_STATE;
            }
            int lack = h.lackOf(account);
            if (lack == 0) {
                return NOT_DONE;
            }
            h.accounts.putCall(account, h.day);
            return lack;
        }

        private static int sellPosition(House h, int account, int series, int taker, int price) {
            if (!h.accounts.has(account) || !h.accounts.has(taker) || !h.listing.has(series)) {
                return NO_SUCH;
            }
            if (!isPrice(price)) {
                return BAD_VALUE;
            }
            int lots = h.accounts.position[account * SERIES + series];
            if (h.isFree(account) || !h.isFree(taker) || lots == 0) {
                return BAD_STATE;
            }
            if (isAboveLimit(h, taker, series, lots)) {
                return NOT_DONE;
            }
            // A trade of lots below 0 is one in the other direction.
            changeHands(h, taker, account, series, lots, price);
            return unsigned(lots);
        }

        private int tearUp(House h, int series) {
            if (!h.listing.has(series)) {
                return NO_SUCH;
            }
            int[] position = h.accounts.position;
            boolean isAny = false;
            int sum = 0;
            for (int account = 0; account < ACCOUNTS; account++) {
                int at = account * SERIES + series;
                if (position[at] != 0 && !h.isFree(account)) {
                    isAny = true;
                    sum += position[at];
                    position[at] = 0;
                }
            }
            if (!isAny) {
                return NOT_DONE;
            }
            takeOffOthers(h, series, sum);
            return unsigned(sum);
        }

        private void takeOffOthers(House h, int series, int sum) {
            int sign = sum > 0 ? -1 : 1;
            putHolders(h, series, sign);
            spread.run(unsigned(sum), 0);
            for (int account = 0; account < ACCOUNTS; account++) {
                h.accounts.position[account * SERIES + series] -= sign * spread.part[account];
            }
        }

        /** The weights become the positions with this sign, without it. */
        private void putHolders(House h, int series, int sign) {
            for (int account = 0; account < ACCOUNTS; account++) {
                int lots = h.accounts.position[account * SERIES + series] * sign;
                spread.put(account, lots > 0 ? lots : 0);
            }
        }

        private static int moveAccount(House h, int account, int member) {
            if (!h.accounts.has(account) || !h.members.has(member)) {
                return NO_SUCH;
            }
            boolean isToMove = account % SLOTS >= FIRST_APART && !h.isFree(account);
            if (!isToMove || !h.members.isGoodAndNoLink(member)) {
                return BAD_STATE;
            }
            int to = h.accounts.freeOf(member);
            if (to == NONE) {
                return NOT_DONE;
            }
            h.accounts.carry(account, to);
            return to;
        }

        private int useOption(House h, int account, int series, int lots, int start) {
            Listing listing = h.listing;
            if (!h.accounts.has(account) || !listing.has(series)) {
                return NO_SUCH;
            }
            int contract = listing.contract[series];
            if (!listing.isContract(contract) || !isLots(lots) || start < 0 || start >= ACCOUNTS) {
                return BAD_VALUE;
            }
            if (!h.isFree(account)) {
                return BAD_STATE;
            }
            if (h.accounts.position[account * SERIES + series] < lots) {
                return NOT_DONE;
            }
            int gain = listing.worthIfUsed(series, listing.price[contract]) - listing.price[series];
            int side = listing.kind[series] == PUT ? -1 : 1;
            putHolders(h, series, -1);
            spread.run(lots, start);
            for (int other = 0; other < ACCOUNTS; other++) {
                int part = other == account ? -lots : spread.part[other];
                h.accounts.position[other * SERIES + series] += part;
                h.accounts.position[other * SERIES + contract] -= side * part;
                h.accounts.due[other * MONEYS + listing.moneyOf(series)] -= part * gain;
            }
            return spread.sharers();
        }

        private int deliverGoods(House h, int account, int series, int lots, int start) {
            Listing listing = h.listing;
            if (!h.accounts.has(account) || !listing.has(series)) {
                return NO_SUCH;
            }
            if (!listing.isContract(series) || !isLots(lots) || start < 0 || start >= ACCOUNTS) {
                return BAD_VALUE;
            }
            if (!h.isFree(account)) {
                return BAD_STATE;
            }
            if (h.accounts.position[account * SERIES + series] > -lots) {
                return NOT_DONE;
            }
            putHolders(h, series, 1);
            spread.run(lots, start);
            for (int other = 0; other < ACCOUNTS; other++) {
                int part = other == account ? -lots : spread.part[other];
                h.accounts.position[other * SERIES + series] -= part;
                h.accounts.due[other * MONEYS + listing.moneyOf(series)] -= part * listing.price[series];
            }
            int good = listing.good[series];
            if (isGoods(good)) {
                h.till.delivered[good] += lots;
            }
            return spread.sharers();
        }
    }

    /** The end of a day. */
    private static final class Settling {
        private final Spread spread;
        private final int[] lack = new int[MEMBERS * MONEYS];
        private int out;

        Settling(Spread spread) {
            this.spread = spread;
        }

        /** Answers how many members are out by it. */
        int run(House h) {
            out = 0;
            fallDue(h);
            for (int money = 0; money < MONEYS; money++) {
                payOwnDues(h, money);
                payForClients(h, money);
                tellShort(h, money);
            }
            for (int money = 0; money < MONEYS; money++) {
                bear(h, money);
            }
            payGains(h);
            putCalls(h);
            h.day++;
            h.trades = 0;
            Arrays.fill(h.listing.told, 0);
            return out;
        }

        private void fallDue(House h) {
            for (int i = 0; i < ACCOUNTS; i++) {
                int call = h.accounts.nextCall(NONE);
                if (call == NONE || call / ACCOUNTS > h.day) {
                    return;
                }
                int account = call % ACCOUNTS;
                h.accounts.callDay[account] = NONE;
                if (h.isFree(account) && h.lackOf(account) > 0) {
                    putOut(h, account / SLOTS);
                }
            }
        }

        private void putOut(House h, int member) {
            if (h.members.isGood(member)) {
                h.members.state[member] = OUT;
                out++;
            }
        }

        private static void payOwnDues(House h, int money) {
            for (int account = 0; account < ACCOUNTS; account++) {
                payDue(h.accounts, account * MONEYS + money, account * MONEYS + money);
            }
        }

        private static void payForClients(House h, int money) {
            for (int member = 0; member < h.members.count; member++) {
                int own = member * SLOTS + OWN;
                for (int slot = TOGETHER; slot < SLOTS; slot++) {
                    payDue(h.accounts, (member * SLOTS + slot) * MONEYS + money, own * MONEYS + money);
                }
            }
        }

        /** What is due below 0 in one place is paid of the balance in another, as far as that goes. */
        private static void payDue(Accounts accounts, int at, int payer) {
            if (at < 0 || at >= ACCOUNTS * MONEYS || payer < 0 || payer >= ACCOUNTS * MONEYS) {
                return;
            }
            if (accounts.due[at] < 0) {
                int paid = Math.min(accounts.balance[payer], -accounts.due[at]);
                accounts.balance[payer] -= paid;
                accounts.due[at] += paid;
            }
        }

        private void tellShort(House h, int money) {
            for (int member = 0; member < h.members.count; member++) {
                int sum = 0;
                for (int slot = 0; slot < SLOTS; slot++) {
                    int owed = -h.accounts.due[(member * SLOTS + slot) * MONEYS + money];
                    if (owed > 0) {
                        sum += owed;
                    }
                }
                lack[member * MONEYS + money] = sum;
                if (sum > 0) {
                    putOut(h, member);
                }
            }
        }

        /** The ladder. */
        private void bear(House h, int money) {
            int missing = 0;
            for (int member = 0; member < h.members.count; member++) {
                missing += lack[member * MONEYS + money];
            }
            int[] borne = h.till.borne;
            int first = money * RUNGS;
            borne[first + SHORT] = missing;
            borne[first + BY_OWN_FUND] = bearByOwnFund(h.members, money);
            missing -= borne[first + BY_OWN_FUND];
            borne[first + BY_PART] = Math.min(missing, h.till.part[money]);
            h.till.part[money] -= borne[first + BY_PART];
            missing -= borne[first + BY_PART];
            borne[first + BY_OTHERS] = bearByOthers(h.members, money, missing);
            missing -= borne[first + BY_OTHERS];
            borne[first + BY_GAINS] = bearByGains(h.accounts, money, missing);
        }

        private int bearByOwnFund(Members members, int money) {
            int sum = 0;
            for (int member = 0; member < members.count; member++) {
                int at = member * MONEYS + money;
                int part = Math.min(lack[at], members.fund[at]);
                members.fund[at] -= part;
                sum += part;
            }
            return sum;
        }

        private int bearByOthers(Members members, int money, int missing) {
            spread.clear();
            int most = 0;
            for (int member = 0; member < members.count; member++) {
                if (members.isGood(member)) {
                    spread.put(member, members.fund[member * MONEYS + money]);
                    most += members.fund[member * MONEYS + money];
                }
            }
            int amount = Math.min(missing, most);
            spread.run(amount, 0);
            for (int member = 0; member < members.count; member++) {
                members.fund[member * MONEYS + money] -= spread.part[member];
            }
            return amount;
        }

        private int bearByGains(Accounts accounts, int money, int missing) {
            for (int account = 0; account < ACCOUNTS; account++) {
                spread.put(account, Math.max(0, accounts.due[account * MONEYS + money]));
            }
            spread.run(missing, 0);
            int sum = 0;
            for (int account = 0; account < ACCOUNTS; account++) {
                accounts.due[account * MONEYS + money] -= spread.part[account];
                sum += spread.part[account];
            }
            return sum;
        }

        private static void payGains(House h) {
            for (int at = 0; at < ACCOUNTS * MONEYS; at++) {
                if (h.accounts.due[at] > 0) {
                    h.accounts.balance[at] += h.accounts.due[at];
                }
                h.accounts.due[at] = 0;
            }
        }

        private static void putCalls(House h) {
            for (int account = 0; account < ACCOUNTS; account++) {
                if (h.accounts.has(account) && h.isFree(account) && h.lackOf(account) > 0) {
                    h.accounts.putCall(account, h.day + 1);
                }
            }
        }
    }

    /** The words in their order, and for the last days the house at morning and the first word. */
    private static final class Diary {
        static final int TRADE_PRICE = 5;

        private final int[] row = new int[WORDS * WORD_SIZE];
        int count;
        private final House[] mornings = new House[KEPT];
        private final int[] firstWord = new int[KEPT];

        Diary() {
            for (int i = 0; i < KEPT; i++) {
                mornings[i] = new House();
            }
        }

        boolean isFull() {
            return count >= WORDS;
        }

        void add(int kind, int a, int b, int c, int d, int e) {
            if (isFull()) {
                return;
            }
            int at = count * WORD_SIZE;
            row[at] = kind;
            row[at + 1] = a;
            row[at + 2] = b;
            row[at + 3] = c;
            row[at + 4] = d;
            row[at + 5] = e;
            count++;
        }

        void begin(House h) {
            if (h.day < 0) {
                return;
            }
            mornings[h.day % KEPT].copyFrom(h);
            firstWord[h.day % KEPT] = count;
        }

        int firstOf(int day) {
            return day < 0 ? 0 : firstWord[day % KEPT];
        }

        int wordsOf(int day) {
            return count - firstOf(day);
        }

        int part(int word, int which) {
            boolean isThere = word >= 0 && word < count && word < WORDS && which >= 0 && which < WORD_SIZE;
            return isThere ? row[word * WORD_SIZE + which] : 0;
        }

        void setPart(int word, int which, int value) {
            if (word >= 0 && word < WORDS && which >= 0 && which < WORD_SIZE) {
                row[word * WORD_SIZE + which] = value;
            }
        }

        boolean isTrade(int word) {
            return part(word, 0) == SAY_TRADE;
        }

        /** The word by which a trade of the day was made. */
        int wordOfTrade(int day, int trade) {
            int trades = 0;
            for (int word = firstOf(day); word < count; word++) {
                if (isTrade(word)) {
                    if (trades == trade) {
                        return word;
                    }
                    trades++;
                }
            }
            return NONE;
        }

        /** Plays the words of the day again from morning, one with another price; whether each can be done so. */
        boolean replay(House onto, Desk desk, int day, int changed, int price) {
            if (day < 0) {
                return false;
            }
            onto.copyFrom(mornings[day % KEPT]);
            for (int word = Math.max(0, firstOf(day)); word < count && word < WORDS; word++) {
                int at = word * WORD_SIZE;
                int last = word == changed ? price : row[at + TRADE_PRICE];
                int got = desk.perform(onto, row[at], row[at + 1], row[at + 2], row[at + 3], row[at + 4], last);
                if (isFault(got)) {
                    return false;
                }
            }
            return true;
        }
    }

    /** The house as it was ahead of each of the last steps. */
    private static final class Steps {
        private final House[] before = new House[KEPT];
        private final int[] words = new int[KEPT];
        private final int[] changedWord = new int[KEPT];
        private final int[] priceBefore = new int[KEPT];
        private int next;
        int count;

        Steps() {
            for (int i = 0; i < KEPT; i++) {
                before[i] = new House();
            }
        }

        /** Keeps the house in the place that is free; it counts only if put() follows. */
        void keep(House h, int wordCount) {
            before[next].copyFrom(h);
            words[next] = wordCount;
        }

        void put(int word, int price) {
            changedWord[next] = word;
            priceBefore[next] = price;
            next = (next + 1) % KEPT;
            if (count < STEPS) {
                count++;
            }
        }

        void back(House h, Diary diary) {
            if (count == 0) {
                return;
            }
            next = (next + KEPT - 1) % KEPT;
            count--;
            h.copyFrom(before[next]);
            diary.count = words[next];
            if (changedWord[next] != NONE) {
                diary.setPart(changedWord[next], Diary.TRADE_PRICE, priceBefore[next]);
            }
        }
    }
}
