/** Promises 30 to 36, 38 and 40 to 43: what is asked. */
public final class AskedTest {
    private static final int LOWEST = Integer.MIN_VALUE;
    private static final int HIGHEST = Integer.MAX_VALUE;
    private static final Check C = new Check("AskedTest");

    private AskedTest() { }

    public static void main(String[] args) {
        ofMember();
        shares();
        ofAccount();
        position();
        loss();
        ofSeries();
        moved();
        calls();
        total();
        ofTrade();
        book();
        open();
        house();
        C.end();
    }

    /** Account 0 has a deposit of 30, 5 of 20, and 8, of a link, of 10; the members 0 and 1 have clients apart. */
    private static Marginhouse withRisks() {
        Marginhouse x = new Marginhouse();
        x.member(false);
        x.member(false);
        x.member(true);
        x.client(0);
        x.client(1);
        x.contract(0, 0, 50);
        x.scenario();
        x.shift(0, 0, -10, 0);
        x.trade(0, 4, 0, 3, 50);
        x.trade(5, 4, 0, 2, 50);
        x.trade(8, 4, 0, 1, 50);
        return x;
    }

    private static void ofMember() {
        C.promise(30, "ofMember");
        Marginhouse x = withRisks();
        x.give(0, 0, 4);
        x.give(0, 1, 5);
        x.limit(0, 60);
        int[] first = {0, 0, 60, 4, 5, 30, 30, 16, 3};
        int[] second = {0, 0, 50, 0, 0, 20, 20, 20, 3};
        int[] link = {1, 0, 50, 0, 0, 10, 0, 0, 1};
        for (int what = 0; what <= 8; what++) {
            C.due("ofMember(0, " + what + ")", first[what], x.ofMember(0, what));
            C.due("ofMember(1, " + what + ")", second[what], x.ofMember(1, what));
            C.due("ofMember(2, " + what + ")", link[what], x.ofMember(2, what));
        }
        x.give(0, 0, 50);
        C.due("nothing is missing", 0, x.ofMember(0, 7));
        C.noIndex("member -1", x, () -> x.ofMember(-1, 0));
        C.noIndex("member 3, what 9: the index first", x, () -> x.ofMember(3, 9));
        C.noIndex("member highest", x, () -> x.ofMember(HIGHEST, 0));
        C.noValue("what -1", x, () -> x.ofMember(0, -1));
        C.noValue("what 9", x, () -> x.ofMember(0, 9));
    }

    private static void shares() {
        C.promise(30, "ofMember, shares of the fund");
        Marginhouse x = withRisks();
        C.due("target: 30 and 20", 50, x.house(12));
        x.member(false);
        x.trade(12, 4, 0, 1, 50);
        C.due("target: the two greatest", 50, x.house(12));
        // 50 by 30, 20 and 10: 25, 16 and 8, and 1 more for the first.
        C.due("share of 0", 26, x.ofMember(0, 6));
        C.due("share of 1", 16, x.ofMember(1, 6));
        C.due("share of 3", 8, x.ofMember(3, 6));
        x.pay(4, 0, 9);
        x.pay(12, 0, 9);
        x.pay(0, 0, 1);
        x.trade(0, 4, 0, 1, 70);
        x.settle();
        C.due("0 is out", 1, x.ofMember(0, 1));
        C.due("it has a risk", 40, x.ofMember(0, 5));
        C.due("but no share", 0, x.ofMember(0, 6));
        C.due("target of those who are good", 30, x.house(12));
        x.shift(0, 0, 0, 0);
        C.due("target without risks", 0, x.house(12));
        C.due("share", 0, x.ofMember(1, 6));
    }

    private static void ofAccount() {
        C.promise(31, "ofAccount");
        Marginhouse x = withRisks();
        x.pay(0, 0, 7);
        x.pay(0, 1, 3);
        x.trade(0, 5, 0, 1, 52);
        x.contract(2, 0, 50);
        x.trade(0, 5, 1, 21, 49);
        x.call(0);
        // Deposit 40, and add for 1 lot at rate 2; cover 7 + 6 - 2; due of money 1 is above 0.
        int[] want = {7, 3, -2, 21, 42, 11, 31, 2, 0, 0};
        for (int what = 0; what <= 9; what++) {
            C.due("ofAccount(0, " + what + ")", want[what], x.ofAccount(0, what));
        }
        C.due("no call", -1, x.ofAccount(5, 8));
        C.due("no loss in a scenario", -1, x.ofAccount(1, 9));
        x.scenario();
        x.scenario();
        x.shift(1, 0, -11, 0);
        x.shift(2, 0, -11, 0);
        C.due("the first with the greatest loss", 1, x.ofAccount(0, 9));
        x.shift(0, 0, -11, 0);
        C.due("the first with the greatest loss", 0, x.ofAccount(0, 9));
        x.pay(5, 0, 9999);
        C.due("it lacks nothing", 0, x.ofAccount(5, 6));
        C.noIndex("account -1", x, () -> x.ofAccount(-1, 0));
        C.noIndex("no account, what 10: the index first", x, () -> x.ofAccount(3, 10));
        C.noIndex("account 20", x, () -> x.ofAccount(20, 0));
        C.noValue("what -1", x, () -> x.ofAccount(0, -1));
        C.noValue("what 10", x, () -> x.ofAccount(0, 10));
    }

    private static void position() {
        C.promise(32, "position");
        Marginhouse x = withRisks();
        C.due("position(0, 0)", 3, x.position(0, 0));
        C.due("position(4, 0)", -6, x.position(4, 0));
        C.due("position(1, 0)", 0, x.position(1, 0));
        C.noIndex("account -1", x, () -> x.position(-1, 0));
        C.noIndex("account 9", x, () -> x.position(9, 0));
        C.noIndex("series -1", x, () -> x.position(0, -1));
        C.noIndex("series 1", x, () -> x.position(0, 1));
    }

    private static void loss() {
        C.promise(33, "loss");
        Marginhouse x = withRisks();
        x.contract(1, 0, 50);
        x.contract(2, 2, 50);
        x.option(0, false, 45, 3);
        x.shift(0, 1, 7, 0);
        x.shift(0, 2, 3, -5);
        C.due("30", 30, x.loss(0, 0));
        C.due("of a gain", 0, x.loss(4, 0));
        x.trade(0, 4, 1, 1, 50);
        C.due("30 less 7 by 5 tenths", 27, x.loss(0, 0));
        x.trade(0, 4, 2, 2, 50);
        C.due("and 14 by the rate 2", 55, x.loss(0, 0));
        x.trade(0, 4, 3, 1, 50);
        // The put is worth 5 more: the gain of good 0 is -25.
        C.due("an option with its good", 50, x.loss(0, 0));
        x.rate(9);
        C.due("by the rate 9", 25 - 3 + 126, x.loss(0, 0));
        C.noIndex("account -1", x, () -> x.loss(-1, 0));
        C.noIndex("account 9", x, () -> x.loss(9, 0));
        C.noIndex("scenario -1", x, () -> x.loss(0, -1));
        C.noIndex("scenario 1", x, () -> x.loss(0, 1));
    }

    private static void ofSeries() {
        C.promise(34, "ofSeries");
        Marginhouse x = withRisks();
        x.option(0, true, 40, 11);
        C.due("sum of positions above 0", 6, x.ofSeries(0, 7));
        x.pay(0, 0, 99);
        x.pay(5, 0, 99);
        x.pay(8, 0, 99);
        x.settle();
        x.price(1, 12);
        int[] contract = {0, 0, 0, 50, -1, -1, 0, 6};
        int[] option = {1, 0, 0, 12, 40, 0, 1, 0};
        for (int what = 0; what <= 7; what++) {
            C.due("ofSeries(0, " + what + ")", contract[what], x.ofSeries(0, what));
            C.due("ofSeries(1, " + what + ")", option[what], x.ofSeries(1, what));
        }
        C.noIndex("series -1", x, () -> x.ofSeries(-1, 0));
        C.noIndex("series 2, what 8: the index first", x, () -> x.ofSeries(2, 8));
        C.noValue("what -1", x, () -> x.ofSeries(0, -1));
        C.noValue("what 8", x, () -> x.ofSeries(0, 8));
    }

    private static void moved() {
        C.promise(35, "moved");
        Marginhouse x = new Marginhouse();
        x.contract(0, 3, 10);
        x.option(0, true, 4, 6);
        x.option(0, true, 12, 1);
        x.option(0, false, 4, 1);
        x.option(0, false, 12, 2);
        x.scenario();
        x.shift(0, 0, 1, -5);
        C.due("1 less 5 a month", -14, x.moved(0, 0));
        C.due("a call that was worth 6", -6, x.moved(0, 1));
        C.due("a call that was worth nothing", 0, x.moved(0, 2));
        C.due("a put, at a price below 0", 8, x.moved(0, 3));
        C.due("a put that was worth 2", 14, x.moved(0, 4));
        x.shift(0, 0, 4, 0);
        C.due("a call that comes above its strike", 2, x.moved(0, 2));
        C.due("a put that was worth 2", -2, x.moved(0, 4));
        x.settle();
        x.price(0, 11);
        C.due("at the new price", 3, x.moved(0, 2));
        x.contract(0, 1, 50);
        C.due("a contract that has come since", 4, x.moved(0, 5));
        x.option(5, false, 52, 2);
        C.due("an option that has come since", -2, x.moved(0, 6));
        x.undo();
        x.undo();
        C.noIndex("scenario -1", x, () -> x.moved(-1, 0));
        C.noIndex("scenario 1", x, () -> x.moved(1, 0));
        C.noIndex("series -1", x, () -> x.moved(0, -1));
        C.noIndex("series 5", x, () -> x.moved(0, 5));
    }

    private static void calls() {
        C.promise(36, "calls");
        Marginhouse x = withRisks();
        C.due("none", "", x.calls());
        x.call(8);
        C.due("one", "8@0", x.calls());
        x.call(0);
        x.call(5);
        C.due("by account", "0@0 5@0 8@0", x.calls());
        C.due("as many", 3, x.house(8));
        x.undo();
        C.due("undone", "0@0 8@0", x.calls());
        Marginhouse y = withRisks();
        y.settle();
        C.due("of the settling", "0@1 5@1 8@1", y.calls());
    }

    private static void total() {
        C.promise(38, "total");
        Marginhouse x = Houses.withOneOut();
        x.take(0, 0, 10);
        x.give(2, 0, 6);
        x.endow(0, 8);
        x.price(0, 62);
        x.price(1, 43);
        int[] first = {102, 6, 8, 126, 10, 6, 6};
        int[] second = {100, 0, 0, 100, 0, 12, 12};
        for (int what = 0; what <= 6; what++) {
            C.due("total(0, " + what + ")", first[what], x.total(0, what));
            C.due("total(1, " + what + ")", second[what], x.total(1, what));
        }
        C.noValue("money -1", x, () -> x.total(-1, 0));
        C.noValue("money 2", x, () -> x.total(2, 0));
        C.noValue("what -1", x, () -> x.total(0, -1));
        C.noValue("what 7", x, () -> x.total(0, 7));
    }

    private static void ofTrade() {
        C.promise(40, "ofTrade");
        Marginhouse x = withRisks();
        x.pay(0, 0, 5);
        x.trade(1, 8, 0, 7, 99);
        int[] first = {0, 4, 0, 3, 50};
        int[] last = {1, 8, 0, 7, 99};
        for (int what = 0; what <= 4; what++) {
            C.due("ofTrade(0, " + what + ")", first[what], x.ofTrade(0, what));
            C.due("ofTrade(3, " + what + ")", last[what], x.ofTrade(3, what));
        }
        C.noIndex("trade -1", x, () -> x.ofTrade(-1, 0));
        C.noIndex("trade 4, what 5: the index first", x, () -> x.ofTrade(4, 5));
        C.noIndex("trade lowest", x, () -> x.ofTrade(LOWEST, 0));
        C.noIndex("trade highest", x, () -> x.ofTrade(HIGHEST, 0));
        C.noValue("what -1", x, () -> x.ofTrade(0, -1));
        C.noValue("what 5", x, () -> x.ofTrade(0, 5));
        x.undo();
        C.noIndex("undone", x, () -> x.ofTrade(3, 0));
    }

    private static void book() {
        C.promise(41, "book");
        Marginhouse x = withRisks();
        x.contract(1, 0, 50);
        x.contract(1, 1, 50);
        C.due("one position", "0:3", x.book(0));
        C.due("none", "", x.book(1));
        x.trade(4, 0, 2, 12, 50);
        C.due("two positions", "0:3 2:-12", x.book(0));
        C.due("two positions", "0:-6 2:12", x.book(4));
        x.trade(4, 0, 0, 3, 50);
        C.due("0 is none", "2:-12", x.book(0));
        C.noIndex("account -1", x, () -> x.book(-1));
        C.noIndex("account 3", x, () -> x.book(3));
        C.noIndex("account 20", x, () -> x.book(20));
    }

    private static void open() {
        C.promise(42, "open");
        Marginhouse x = Houses.withOneOut();
        C.due("of member 1", "4 6", x.open());
        x.tear(0);
        C.due("4 has none now", "6", x.open());
        x.price(1, 99);
        x.settle();
        C.due("member 2 is out too", "6 8", x.open());
        x.move(6, 0);
        C.due("6 has moved to one that is good", "8", x.open());
        x.tear(1);
        C.due("none", "", x.open());
    }

    private static void house() {
        C.promise(43, "house");
        Marginhouse x = Houses.withOneOut();
        x.scenario();
        x.shift(0, 2, 20, 0);
        x.contract(1, 0, 9);
        x.call(8);
        x.trade(8, 0, 2, 2, 9);
        x.trade(8, 0, 2, 2, 9);
        x.deliver(0, 2, 3, 0);
        x.deliver(0, 0, 1, 0);
        x.deliver(8, 1, 2, 0);
        x.knock();
        // Risk of member 2: 2 lots at 20, rate 2. Account 0 has lost its lots of good 0 but 2, with no deposit.
        int[] want = {3, 2, 8, 3, 1, 1, 2, 9, 1, 2, 5, 10, 80, 1, 3, 2, 8, 1};
        for (int what = 0; what <= 17; what++) {
            C.due("house(" + what + ")", want[what], x.house(what));
        }
        C.noValue("what -1", x, () -> x.house(-1));
        C.noValue("what 18", x, () -> x.house(18));
        C.noValue("what lowest", x, () -> x.house(LOWEST));
    }
}
