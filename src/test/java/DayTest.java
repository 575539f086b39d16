/** Promises 14 to 20 and 22: money paid and given, prices, trades, calls, and trades corrected. */
public final class DayTest {
    private static final int LOWEST = Integer.MIN_VALUE;
    private static final int HIGHEST = Integer.MAX_VALUE;
    private static final Check C = new Check("DayTest");

    private DayTest() { }

    public static void main(String[] args) {
        pay();
        take();
        takeThatLacks();
        give();
        endow();
        price();
        trade();
        tradeWrongly();
        tradeToLimit();
        call();
        correct();
        correctRefused();
        correctLater();
        C.end();
    }

    private static void pay() {
        C.promise(14, "pay");
        Marginhouse x = Houses.withOneOut();
        int in = x.total(0, 3);
        C.due("the smallest", 1, x.pay(1, 0, 1));
        C.due("the greatest", 10000, x.pay(1, 0, 9999));
        C.due("balance", 10000, x.ofAccount(1, 0));
        C.due("the other money", 0, x.ofAccount(1, 1));
        C.due("paid in", in + 10000, x.total(0, 3));
        C.due("of one that is out", 5, x.pay(4, 1, 5));
        C.due("money 1", 5, x.ofAccount(4, 1));
        C.noValue("amount 0", x, () -> x.pay(0, 0, 0));
        C.noValue("amount 10000", x, () -> x.pay(0, 0, 10000));
        C.noValue("money -1", x, () -> x.pay(0, -1, 5));
        C.noValue("money 2", x, () -> x.pay(0, 2, 5));
        C.noIndex("account -1", x, () -> x.pay(-1, 0, 5));
        C.noIndex("a slot that has not come, amount 0: the index first", x, () -> x.pay(2, 0, 0));
        C.noIndex("account 20", x, () -> x.pay(20, 0, 5));
        C.noIndex("account lowest", x, () -> x.pay(LOWEST, 0, 5));
        C.noIndex("account highest", x, () -> x.pay(HIGHEST, 0, 5));
    }

    private static void take() {
        C.promise(15, "take");
        Marginhouse x = Houses.withOneOut();
        C.due("balance", 112, x.ofAccount(0, 0));
        C.refused("more than there is", x, () -> x.take(0, 0, 113));
        C.refused("more than there is in money 1", x, () -> x.take(0, 1, 1));
        C.due("take", 111, x.take(0, 0, 1));
        C.due("take all", 0, x.take(0, 0, 111));
        C.due("paid out", 112, x.total(0, 4));
        C.due("of money 1", 0, x.total(1, 4));
        C.noState("of one that is out", x, () -> x.take(6, 1, 1));
        C.noState("too much of one that is out", x, () -> x.take(6, 0, 9999));
        C.noValue("amount 0 of one that is out: the value first", x, () -> x.take(6, 0, 0));
        C.noValue("amount 10000", x, () -> x.take(0, 0, 10000));
        C.noValue("money -1", x, () -> x.take(0, -1, 1));
        C.noValue("money 2", x, () -> x.take(0, 2, 1));
        C.noIndex("no account, amount 0: the index first", x, () -> x.take(12, 0, 0));
        C.noIndex("account -1", x, () -> x.take(-1, 0, 1));
    }

    private static void takeThatLacks() {
        C.promise(15, "take that makes it lack");
        Marginhouse x = new Marginhouse();
        x.member(false);
        x.member(false);
        x.contract(0, 0, 50);
        x.scenario();
        x.shift(0, 0, -10, 0);
        x.pay(0, 0, 50);
        x.pay(0, 1, 10);
        x.trade(0, 4, 0, 4, 53);
        // Deposit 40 and due -12, cover 50 + 20 - 12: 18 can go.
        C.due("cover", 58, x.ofAccount(0, 5));
        C.refused("19", x, () -> x.take(0, 0, 19));
        C.refused("10 of money 1", x, () -> x.take(0, 1, 10));
        C.due("18", 32, x.take(0, 0, 18));
        C.due("lacks", 0, x.ofAccount(0, 6));
        C.refused("1 more", x, () -> x.take(0, 0, 1));
        x.counts(1, 0);
        C.refused("it lacks already, and the money does not count", x, () -> x.take(0, 1, 1));
    }

    private static void give() {
        C.promise(16, "give");
        Marginhouse x = Houses.withOneOut();
        int in = x.total(1, 3);
        C.due("the smallest", 1, x.give(0, 1, 1));
        C.due("the greatest", 10000, x.give(0, 1, 9999));
        C.due("in the fund", 10000, x.ofMember(0, 4));
        C.due("in money 0", 0, x.ofMember(0, 3));
        C.due("all in the fund", 10000, x.total(1, 1));
        C.due("paid in", in + 10000, x.total(1, 3));
        int link = x.member(true);
        C.noState("of a link", x, () -> x.give(link, 0, 5));
        C.noState("of one that is out", x, () -> x.give(1, 0, 5));
        C.noValue("amount 0 of one that is out: the value first", x, () -> x.give(1, 0, 0));
        C.noValue("amount 10000", x, () -> x.give(0, 0, 10000));
        C.noValue("money -1", x, () -> x.give(0, -1, 5));
        C.noValue("money 2", x, () -> x.give(0, 2, 5));
        C.noIndex("no member, amount 0: the index first", x, () -> x.give(4, 0, 0));
        C.noIndex("member -1", x, () -> x.give(-1, 0, 5));
    }

    private static void endow() {
        C.promise(17, "endow");
        Marginhouse x = new Marginhouse();
        C.due("the smallest", 1, x.endow(0, 1));
        C.due("the greatest", 10000, x.endow(0, 9999));
        C.due("money 1", 3, x.endow(1, 3));
        C.due("part", 10000, x.total(0, 2));
        C.due("paid in", 10000, x.total(0, 3));
        C.due("part of money 1", 3, x.total(1, 2));
        C.noValue("money -1", x, () -> x.endow(-1, 5));
        C.noValue("money 2", x, () -> x.endow(2, 5));
        C.noValue("amount 0", x, () -> x.endow(0, 0));
        C.noValue("amount 10000", x, () -> x.endow(0, 10000));
    }

    private static void price() {
        C.promise(18, "price");
        Marginhouse x = Houses.withOneOut();
        C.due("price(1, 43)", 40, x.price(1, 43));
        C.due("due of the buyer, who is out", 12, x.ofAccount(6, 3));
        C.due("due of the seller", -12, x.ofAccount(8, 3));
        C.due("due in the other money", 0, x.ofAccount(8, 2));
        C.due("told", 1, x.ofSeries(1, 6));
        C.noState("told on this day", x, () -> x.price(1, 43));
        C.noValue("told on this day, price 100: the value first", x, () -> x.price(1, 100));
        C.noValue("price -1", x, () -> x.price(0, -1));
        C.noIndex("series -1", x, () -> x.price(-1, 5));
        C.noIndex("no series, price 100: the index first", x, () -> x.price(2, 100));
        C.due("the smallest", 60, x.price(0, 0));
        C.due("due", 180, x.ofAccount(0, 2));
        x.settle();
        C.due("not told in the morning", 0, x.ofSeries(0, 6));
        C.due("the greatest", 0, x.price(0, 99));
        C.due("due", -297, x.ofAccount(0, 2));
    }

    private static void trade() {
        C.promise(19, "trade");
        Marginhouse x = new Marginhouse();
        x.member(false);
        x.member(true);
        x.contract(0, 0, 50);
        x.contract(2, 0, 50);
        C.due("the first", 0, x.trade(0, 4, 0, 1, 0));
        C.due("the second, in one member", 1, x.trade(1, 0, 1, 50, 99));
        C.due("position of the buyer", 1, x.position(0, 0));
        C.due("position of the seller", -1, x.position(4, 0));
        C.due("due of the buyer", 50, x.ofAccount(0, 2));
        C.due("due of the seller", -50, x.ofAccount(4, 2));
        C.due("due of the buyer in money 1", -49 * 50, x.ofAccount(1, 3));
        C.due("due of the seller in money 1", 49 * 50, x.ofAccount(0, 3));
        C.due("trades", 2, x.house(6));
        C.due("the other way", 2, x.trade(4, 0, 0, 5, 51));
        C.due("due", 55, x.ofAccount(0, 2));
        C.due("position", -4, x.position(0, 0));
        x.pay(4, 0, 55);
        x.pay(1, 1, 9999);
        x.settle();
        C.due("trades of the next day", 0, x.house(6));
        C.due("the first of the next day", 0, x.trade(0, 4, 0, 1, 50));
    }

    private static void tradeWrongly() {
        C.promise(19, "trade, wrong inputs");
        Marginhouse x = Houses.withOneOut();
        C.noValue("both the same", x, () -> x.trade(0, 0, 0, 5, 50));
        C.noValue("lots 0", x, () -> x.trade(0, 8, 0, 0, 50));
        C.noValue("lots 51", x, () -> x.trade(0, 8, 0, 51, 50));
        C.noValue("price -1", x, () -> x.trade(0, 8, 0, 5, -1));
        C.noValue("price 100", x, () -> x.trade(0, 8, 0, 5, 100));
        C.noValue("lots lowest", x, () -> x.trade(0, 8, 0, LOWEST, 50));
        C.noIndex("no buyer", x, () -> x.trade(12, 8, 0, 5, 50));
        C.noIndex("no seller", x, () -> x.trade(0, -1, 0, 5, 50));
        C.noIndex("no series, lots 0: the index first", x, () -> x.trade(0, 8, 2, 0, 50));
        C.noIndex("series -1", x, () -> x.trade(0, 8, -1, 5, 50));
        C.noIndex("the same, and none: the index first", x, () -> x.trade(2, 2, 0, 5, 50));
        C.noState("the buyer is out", x, () -> x.trade(4, 8, 0, 5, 50));
        C.noState("the seller is out", x, () -> x.trade(8, 6, 0, 5, 50));
        C.noValue("one is out, price 100: the value first", x, () -> x.trade(8, 6, 0, 5, 100));
        x.limit(2, 1);
        C.noState("one is out, and above the limit: the exception first", x, () -> x.trade(8, 6, 0, 5, 50));
    }

    private static void tradeToLimit() {
        C.promise(19, "trade up to a limit");
        Marginhouse x = new Marginhouse();
        x.member(false);
        x.member(false);
        x.contract(0, 0, 50);
        x.contract(0, 1, 50);
        x.limit(0, 10);
        C.refused("the buyer comes above", x, () -> x.trade(0, 4, 0, 11, 50));
        C.refused("the seller comes above", x, () -> x.trade(4, 0, 0, 11, 50));
        C.due("up to it", 0, x.trade(0, 4, 0, 10, 50));
        C.refused("1 more", x, () -> x.trade(0, 4, 0, 1, 50));
        C.due("each account for itself", 1, x.trade(1, 4, 0, 10, 50));
        C.due("each series for itself", 2, x.trade(0, 4, 1, 10, 50));
        C.refused("to -11", x, () -> x.trade(4, 0, 0, 21, 50));
        C.due("to -10", 3, x.trade(4, 0, 0, 20, 50));
        x.limit(0, 4);
        C.refused("less, but above still", x, () -> x.trade(0, 4, 0, 5, 50));
        C.due("below", 4, x.trade(0, 4, 0, 6, 50));
        C.due("in one series, though another is above", 5, x.trade(0, 4, 0, 1, 50));
    }

    private static void call() {
        C.promise(20, "call");
        Marginhouse x = Houses.withOneOut();
        C.refused("nothing is lacking", x, () -> x.call(0));
        C.noState("one that is out", x, () -> x.call(4));
        C.noIndex("no account", x, () -> x.call(2));
        C.noIndex("account -1", x, () -> x.call(-1));
        x.scenario();
        x.shift(0, 2, 20, 0);
        C.due("what it lacks: 4 * 20 * 2 less 50 * 2", 60, x.call(8));
        C.due("the call is for this day", 1, x.ofAccount(8, 8));
        C.due("calls", "8@1", x.calls());
        x.shift(0, 2, 13, 0);
        C.due("again", 4, x.call(8));
        C.due("at most one call", 1, x.house(8));
        x.shift(0, 2, 12, 0);
        C.refused("again, with nothing lacking", x, () -> x.call(8));
        C.due("the call stays", "8@1", x.calls());
        C.due("settle", 0, x.settle());
        C.due("but it is gone", "", x.calls());
        x.shift(0, 2, 13, 0);
        x.call(8);
        C.due("it falls due, and is lacking", 1, x.settle());
        C.due("out", 1, x.ofMember(2, 1));
    }

    private static void correct() {
        C.promise(22, "correct");
        Marginhouse x = new Marginhouse();
        x.member(false);
        x.member(false);
        x.contract(0, 0, 50);
        x.trade(0, 4, 0, 2, 50);
        x.trade(4, 0, 0, 5, 51);
        x.pay(0, 0, 30);
        int words = x.house(7);
        C.due("correct(1, 99)", 51, x.correct(1, 99));
        C.due("due", 245, x.ofAccount(0, 2));
        C.due("correct(1, 0)", 99, x.correct(1, 0));
        C.due("due", -250, x.ofAccount(0, 2));
        C.due("position", -3, x.position(0, 0));
        C.due("balance", 30, x.ofAccount(0, 0));
        C.due("ofTrade(1, 4)", 0, x.ofTrade(1, 4));
        C.due("it is no word", words, x.house(7));
        C.due("trades", 2, x.house(6));
        C.due("isSound()", true, x.isSound());
        C.due("undo()", 7, x.undo());
        C.due("price of the trade", 99, x.ofTrade(1, 4));
        C.due("due", 245, x.ofAccount(0, 2));
        C.due("isSound()", true, x.isSound());
        x.undo();
        C.due("price of the trade", 51, x.ofTrade(1, 4));
        C.due("the same price", 50, x.correct(0, 50));
        C.due("is a step", 7, x.house(16));
        C.noIndex("trade -1", x, () -> x.correct(-1, 50));
        C.noIndex("trade 2, price 100: the index first", x, () -> x.correct(2, 100));
        C.noValue("price -1", x, () -> x.correct(0, -1));
        C.noValue("price 100", x, () -> x.correct(0, 100));
        C.noIndex("trade lowest", x, () -> x.correct(LOWEST, 50));
    }

    private static void correctRefused() {
        C.promise(22, "correct, refused");
        Marginhouse x = new Marginhouse();
        x.member(false);
        x.member(false);
        x.contract(0, 0, 50);
        x.pay(4, 0, 20);
        x.trade(0, 4, 0, 1, 60);
        C.due("a call that is let only at this price", 10, x.call(0));
        C.refused("no call then", x, () -> x.correct(0, 50));
        C.due("less to call then", 60, x.correct(0, 51));
        C.due("the call stands", "0@0", x.calls());
        x.take(4, 0, 20);
        C.refused("too much is taken then", x, () -> x.correct(0, 49));
        x.trade(0, 4, 0, 1, 50);
        C.due("another trade", 50, x.correct(1, 49));
    }

    private static void correctLater() {
        C.promise(22, "correct on a later day");
        Marginhouse x = Houses.withOneOut();
        C.noIndex("a trade of the day before", x, () -> x.correct(0, 50));
        x.price(0, 61);
        x.trade(0, 8, 0, 2, 60);
        x.sell(6, 1, 0, 45);
        x.rate(4);
        C.due("correct(0, 64)", 60, x.correct(0, 64));
        C.due("due of 3 and of 2 lots", -3 - 6, x.ofAccount(0, 2));
        C.due("of the sale", -20, x.ofAccount(0, 3));
        C.due("rate", 4, x.house(9));
        C.due("balance", 112, x.ofAccount(0, 0));
        C.due("short on the day before", 18, x.borne(0, 0));
        C.due("out still", 1, x.ofMember(1, 1));
        C.due("isSound()", true, x.isSound());
    }
}
