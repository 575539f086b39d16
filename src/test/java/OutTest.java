/** Promises 23 to 29: who is out, options used, goods delivered, steps undone, and a knock at the door. */
public final class OutTest {
    private static final int LOWEST = Integer.MIN_VALUE;
    private static final int HIGHEST = Integer.MAX_VALUE;
    private static final Check C = new Check("OutTest");

    private OutTest() { }

    public static void main(String[] args) {
        sell();
        sellWrongly();
        tear();
        tearToSeveral();
        move();
        moveWrongly();
        useCall();
        usePut();
        useWrongly();
        deliver();
        deliverWrongly();
        undo();
        undoOverDays();
        knock();
        C.end();
    }

    private static void sell() {
        C.promise(23, "sell");
        Marginhouse x = Houses.withOneOut();
        x.price(0, 62);
        x.price(1, 41);
        C.due("a position above 0", 3, x.sell(4, 0, 8, 57));
        C.due("of the one that is out", 0, x.position(4, 0));
        C.due("of the taker", 3, x.position(8, 0));
        C.due("due of the taker", 15, x.ofAccount(8, 2));
        C.due("due of the one that is out", 6 - 15, x.ofAccount(4, 2));
        C.due("it is no trade", 0, x.house(6));
        C.due("but a word", 3, x.house(7));
        Marginhouse y = new Marginhouse();
        y.member(false);
        y.member(false);
        y.contract(2, 0, 50);
        y.trade(4, 0, 0, 5, 48);
        y.settle();
        C.due("a position below 0", 5, y.sell(0, 0, 5, 53));
        C.due("of the taker", -5, y.position(5, 0));
        C.due("due of the taker, who sold", 15, y.ofAccount(5, 3));
        C.due("due of the one that is out", -15, y.ofAccount(0, 3));
        C.due("the other one", 5, y.position(4, 0));
        C.due("isSound()", true, y.isSound());
    }

    private static void sellWrongly() {
        C.promise(23, "sell, wrong inputs and a limit");
        Marginhouse x = Houses.withOneOut();
        C.noIndex("no account", x, () -> x.sell(2, 0, 0, 50));
        C.noIndex("no taker", x, () -> x.sell(4, 0, 12, 50));
        C.noIndex("no series, price 100: the index first", x, () -> x.sell(4, 2, 0, 100));
        C.noIndex("series -1", x, () -> x.sell(4, -1, 0, 50));
        C.noValue("price -1", x, () -> x.sell(4, 0, 0, -1));
        C.noValue("price 100 of one that is good: the value first", x, () -> x.sell(0, 0, 8, 100));
        C.noState("the account is good", x, () -> x.sell(0, 0, 8, 50));
        C.noState("the taker is out", x, () -> x.sell(4, 0, 5, 50));
        C.noState("the taker is the same", x, () -> x.sell(4, 0, 4, 50));
        C.noState("the position is 0", x, () -> x.sell(4, 1, 0, 50));
        x.limit(2, 2);
        C.refused("above the limit of the taker", x, () -> x.sell(4, 0, 8, 50));
        x.limit(2, 3);
        x.limit(1, 1);
        C.due("the limit of the one that is out does not count", 3, x.sell(4, 0, 8, 50));
        C.refused("4 lots above the limit of 3", x, () -> x.sell(6, 1, 9, 50));
        x.limit(0, 4);
        C.due("4 lots up to a limit of 4", 4, x.sell(6, 1, 1, 50));
    }

    private static void tear() {
        C.promise(24, "tear");
        Marginhouse x = Houses.withOneOut();
        C.noIndex("series -1", x, () -> x.tear(-1));
        C.noIndex("series 2", x, () -> x.tear(2));
        C.noIndex("series lowest", x, () -> x.tear(LOWEST));
        C.due("tear(0)", 3, x.tear(0));
        C.due("of the one that is out", 0, x.position(4, 0));
        C.due("of the other", 0, x.position(0, 0));
        C.due("nothing is paid", 0, x.ofAccount(0, 2));
        C.due("the other series", 4, x.position(6, 1));
        C.refused("nothing is left", x, () -> x.tear(0));
        C.due("tear(1)", 4, x.tear(1));
        C.due("of the other", 0, x.position(8, 1));
    }

    private static void tearToSeveral() {
        C.promise(24, "tear, off several others");
        Marginhouse x = new Marginhouse();
        for (int i = 0; i < 4; i++) {
            x.member(false);
        }
        x.contract(0, 0, 50);
        x.trade(0, 4, 0, 9, 60);
        x.trade(1, 8, 0, 3, 50);
        x.trade(12, 9, 0, 8, 50);
        x.trade(5, 1, 0, 5, 50);
        // 0 has 9, 1 has -2, both of the one that is out; 4 has -9, 5 has 5, 8 has -3, 9 has -8, 12 has 8.
        x.settle();
        C.due("out", 1, x.ofMember(0, 1));
        C.due("the sum of 9 and -2", 7, x.tear(0));
        // 7 by 9, 3 and 8 of 20: 3, 1 and 2, and 1 more for the first.
        C.due("4", -5, x.position(4, 0));
        C.due("8", -2, x.position(8, 0));
        C.due("9", -6, x.position(9, 0));
        C.due("5, of the same sign", 5, x.position(5, 0));
        C.due("12, of the same sign", 8, x.position(12, 0));
        C.due("0 and 1", 0, x.position(0, 0) + x.position(1, 0));
        C.due("isSound()", true, x.isSound());
        Marginhouse y = new Marginhouse();
        y.member(false);
        y.member(false);
        y.contract(0, 0, 50);
        y.trade(0, 1, 0, 4, 60);
        y.settle();
        C.due("a sum of 0", 0, y.tear(0));
        C.due("position", 0, y.position(0, 0));
        Marginhouse z = new Marginhouse();
        z.member(false);
        z.member(false);
        z.contract(0, 0, 50);
        z.trade(4, 0, 0, 4, 40);
        z.settle();
        C.due("a sum below 0", 4, z.tear(0));
        C.due("off one above 0", 0, z.position(4, 0));
    }

    private static void move() {
        C.promise(25, "move");
        Marginhouse x = Houses.withOneOut();
        x.price(1, 45);
        C.due("move(7, 0)", 2, x.move(7, 0));
        C.due("move(6, 0)", 3, x.move(6, 0));
        C.due("position", 4, x.position(3, 1));
        C.due("balance", 50, x.ofAccount(3, 1));
        C.due("due", 20, x.ofAccount(3, 3));
        C.due("accounts of the one that is out", 2, x.ofMember(1, 8));
        C.due("accounts of the other", 4, x.ofMember(0, 8));
        C.noIndex("its old number is none", x, () -> x.position(6, 1));
        C.due("the sum of balances", 100, x.total(1, 0));
        C.due("the sum of dues", 20, x.total(1, 5));
        C.due("the sum of positions", 4, x.ofSeries(1, 7));
        C.due("isSound()", true, x.isSound());
        C.due("it can trade", 0, x.trade(3, 8, 1, 1, 45));
        C.due("settle()", 0, x.settle());
        C.due("balance", 70, x.ofAccount(3, 1));
        x.undo();
        x.undo();
        x.undo();
        C.due("undone, it has its old number", 4, x.position(6, 1));
        C.due("isSound()", true, x.isSound());
    }

    private static void moveWrongly() {
        C.promise(25, "move, calls, a house that is full and wrong inputs");
        Marginhouse x = Houses.withOneOut();
        int link = x.member(true);
        C.noIndex("no account", x, () -> x.move(2, 0));
        C.noIndex("no member", x, () -> x.move(6, 4));
        C.noIndex("member -1, and an account that stays: the index first", x, () -> x.move(4, -1));
        C.noIndex("account highest", x, () -> x.move(HIGHEST, 0));
        C.noState("the own account", x, () -> x.move(4, 0));
        C.noState("the one together", x, () -> x.move(5, 0));
        C.noState("to one that is out", x, () -> x.move(6, 1));
        C.noState("to a link", x, () -> x.move(6, link));
        x.client(0);
        C.noState("of one that is good", x, () -> x.move(2, 2));
        C.due("to slot 3", 3, x.move(6, 0));
        C.refused("to one that has both", x, () -> x.move(7, 0));
        C.noState("the own account to one that has both: the exception first", x, () -> x.move(5, 0));
        Marginhouse y = new Marginhouse();
        y.member(false);
        y.member(false);
        y.client(0);
        y.contract(0, 0, 50);
        y.scenario();
        y.shift(0, 0, -10, 0);
        y.pay(2, 0, 3);
        y.trade(2, 4, 0, 1, 50);
        y.trade(0, 4, 0, 1, 60);
        C.due("lacks", 7, y.call(2));
        y.settle();
        C.due("its call went", -1, y.ofAccount(2, 8));
        C.due("move(2, 1)", 6, y.move(2, 1));
        C.due("no call", -1, y.ofAccount(6, 8));
        y.settle();
        C.due("a call", "6@2", y.calls());
    }

    /** Account 0 has 7 calls on contract 0 (good 2, price 60) sold by 4, 5 and 9: 2, 4 and 1 lots. */
    private static Marginhouse withOptions(boolean isCall) {
        Marginhouse x = new Marginhouse();
        x.member(false);
        x.member(false);
        x.member(false);
        x.contract(2, 0, 60);
        x.option(0, isCall, 55, 3);
        x.trade(0, 4, 1, 2, 3);
        x.trade(0, 5, 1, 4, 3);
        x.trade(0, 9, 1, 1, 3);
        return x;
    }

    private static void useCall() {
        C.promise(26, "use, a call");
        Marginhouse x = withOptions(true);
        // 4 by 2, 4 and 1 of 7: 1, 2 and 0, and 1 more for the first from 9 on, that is 9.
        C.due("use(0, 1, 4, 6)", 3, x.use(0, 1, 4, 6));
        C.due("book(0)", "0:4 1:3", x.book(0));
        C.due("book(4)", "0:-1 1:-1", x.book(4));
        C.due("book(5)", "0:-2 1:-2", x.book(5));
        C.due("book(9)", "0:-1", x.book(9));
        // W is 5, the price 3.
        C.due("due of the user", 8, x.ofAccount(0, 3));
        C.due("due of 4", -2, x.ofAccount(4, 3));
        C.due("due of 5", -4, x.ofAccount(5, 3));
        C.due("due of 9", -2, x.ofAccount(9, 3));
        C.due("isSound()", true, x.isSound());
        // 3 lots by 1 and 2.
        C.due("the rest, with a start behind all", 2, x.use(0, 1, 3, 19));
        C.due("book(0)", "0:7", x.book(0));
        C.due("book(5)", "0:-4", x.book(5));
        Marginhouse y = withOptions(true);
        C.due("1 lot, from 5 on", 1, y.use(0, 1, 1, 5));
        C.due("book(5)", "0:-1 1:-3", y.book(5));
        y.limit(0, 1);
        C.due("no limit holds here", 3, y.use(0, 1, 6, 0));
        C.due("position", 7, y.position(0, 0));
    }

    private static void usePut() {
        C.promise(26, "use, a put");
        Marginhouse x = withOptions(false);
        C.due("use(0, 1, 5, 0)", 2, x.use(0, 1, 5, 0));
        // 5 by 2, 4 and 1 of 7: 1, 2 and 0, and 1 more for 4 and 5.
        C.due("book(0)", "0:-5 1:2", x.book(0));
        C.due("book(4)", "0:2", x.book(4));
        C.due("book(5)", "0:3 1:-1", x.book(5));
        C.due("book(9)", "1:-1", x.book(9));
        // W is -5, the price 3: -8 a lot.
        C.due("due of the user", -40, x.ofAccount(0, 3));
        C.due("due of 4", 16, x.ofAccount(4, 3));
        C.due("due of 5", 24, x.ofAccount(5, 3));
    }

    private static void useWrongly() {
        C.promise(26, "use, wrong inputs");
        Marginhouse x = Houses.withOneOut();
        x.option(0, true, 50, 10);
        C.noIndex("no account", x, () -> x.use(2, 2, 1, 0));
        C.noIndex("no series, lots 0: the index first", x, () -> x.use(0, 3, 0, 0));
        C.noIndex("series -1", x, () -> x.use(0, -1, 1, 0));
        C.noValue("a contract", x, () -> x.use(0, 0, 1, 0));
        C.noValue("lots 0", x, () -> x.use(0, 2, 0, 0));
        C.noValue("lots 51", x, () -> x.use(0, 2, 51, 0));
        C.noValue("start -1", x, () -> x.use(0, 2, 1, -1));
        C.noValue("start 20", x, () -> x.use(0, 2, 1, 20));
        C.noValue("start 20 of one that is out: the value first", x, () -> x.use(4, 2, 1, 20));
        C.noState("one that is out", x, () -> x.use(4, 2, 1, 0));
        C.refused("without a position", x, () -> x.use(0, 2, 1, 0));
        x.trade(0, 8, 2, 5, 10);
        C.refused("more than the position", x, () -> x.use(0, 2, 6, 0));
        C.refused("a position below 0", x, () -> x.use(8, 2, 5, 0));
        C.due("all of it, start 19", 1, x.use(0, 2, 5, 19));
    }

    private static void deliver() {
        C.promise(27, "deliver");
        Marginhouse x = new Marginhouse();
        x.member(false);
        x.member(false);
        x.member(false);
        x.contract(1, 0, 30);
        x.trade(4, 0, 0, 2, 30);
        x.trade(5, 0, 0, 4, 30);
        x.trade(9, 0, 0, 1, 30);
        // As with use(): 4, 5 and 9 get 1, 2 and 1.
        C.due("deliver(0, 0, 4, 6)", 3, x.deliver(0, 0, 4, 6));
        C.due("position", -3, x.position(0, 0));
        C.due("position of 4", 1, x.position(4, 0));
        C.due("position of 5", 2, x.position(5, 0));
        C.due("position of 9", 0, x.position(9, 0));
        C.due("due", 120, x.ofAccount(0, 2));
        C.due("due of 4", -30, x.ofAccount(4, 2));
        C.due("due of 5", -60, x.ofAccount(5, 2));
        C.due("due of 9", -30, x.ofAccount(9, 2));
        C.due("delivered of good 1", 4, x.house(14));
        C.due("delivered of good 0", 0, x.house(13));
        C.due("the rest", 2, x.deliver(0, 0, 3, 5));
        C.due("delivered of good 1", 7, x.house(14));
        C.due("isSound()", true, x.isSound());
    }

    private static void deliverWrongly() {
        C.promise(27, "deliver, wrong inputs");
        Marginhouse x = Houses.withOneOut();
        x.option(0, true, 50, 10);
        C.noIndex("no account", x, () -> x.deliver(2, 0, 1, 0));
        C.noIndex("no series, lots 0: the index first", x, () -> x.deliver(0, 3, 0, 0));
        C.noIndex("series -1", x, () -> x.deliver(0, -1, 1, 0));
        C.noValue("an option", x, () -> x.deliver(0, 2, 1, 0));
        C.noValue("lots 0", x, () -> x.deliver(0, 0, 0, 0));
        C.noValue("lots 51", x, () -> x.deliver(0, 0, 51, 0));
        C.noValue("start -1", x, () -> x.deliver(0, 0, 1, -1));
        C.noValue("start 20 of one that is out: the value first", x, () -> x.deliver(4, 0, 1, 20));
        C.noState("one that is out", x, () -> x.deliver(4, 0, 1, 0));
        C.refused("above minus lots", x, () -> x.deliver(0, 0, 4, 0));
        C.refused("without a position", x, () -> x.deliver(8, 0, 1, 0));
        C.due("to one that is out", 1, x.deliver(0, 0, 3, 19));
        C.due("due of it", -180, x.ofAccount(4, 2));
        C.refused("lots of the other side", x, () -> x.deliver(8, 1, 5, 0));
        C.due("of good 2", 1, x.deliver(8, 1, 4, 0));
        C.due("delivered of good 2", 4, x.house(15));
    }

    private static void undo() {
        C.promise(28, "undo");
        Marginhouse x = new Marginhouse();
        C.noState("without a step", x, x::undo);
        long empty = x.digest();
        x.member(false);
        C.due("undo()", 0, x.undo());
        C.due("as it was", empty, x.digest());
        C.noState("none is left", x, x::undo);
        x.member(false);
        x.member(false);
        x.contract(0, 0, 50);
        long[] before = new long[10];
        for (int i = 0; i < 10; i++) {
            before[i] = x.trade(0, 4, 0, 1, 50 + i);
            x.take(0, 0, 5);
            before[i] = x.ofAccount(0, 2);
        }
        C.due("steps", 8, x.house(16));
        for (int i = 9; i >= 2; i--) {
            C.due("due", before[i], (long) x.ofAccount(0, 2));
            C.due("undo()", i - 2, x.undo());
        }
        C.due("the last 8 alone are undone", 2, x.house(6));
        C.noState("the ninth", x, x::undo);
        x.trade(0, 4, 0, 1, 50);
        C.due("one step again", 1, x.house(16));
        C.due("words", 6, x.house(7));
    }

    private static void undoOverDays() {
        C.promise(28, "undo, over days and corrections");
        Marginhouse x = new Marginhouse();
        x.member(false);
        x.member(false);
        x.contract(0, 0, 50);
        x.pay(4, 0, 99);
        x.trade(0, 4, 0, 3, 45);
        x.pay(0, 0, 9);
        x.correct(0, 44);
        for (int i = 0; i < 8; i++) {
            x.knock();
            x.settle();
        }
        C.due("day", 8, x.house(5));
        for (int i = 7; i >= 0; i--) {
            C.due("undo()", i, x.undo());
            C.due("day", i, x.house(5));
            C.due("isSound()", true, x.isSound());
        }
        C.due("the corrected price", 44, x.ofTrade(0, 4));
        C.due("words", 6, x.house(7));
        C.due("knocks stay", 8, x.house(17));
        C.due("the day can be corrected again", 44, x.correct(0, 40));
        C.due("due", 30, x.ofAccount(0, 2));
        C.due("and settled", 0, x.settle());
        C.due("balance", 39, x.ofAccount(0, 0));
        C.due("undo()", 1, x.undo());
        C.due("undo()", 0, x.undo());
        C.due("due", 18, x.ofAccount(0, 2));
    }

    private static void knock() {
        C.promise(29, "knock");
        Marginhouse x = new Marginhouse();
        x.member(false);
        C.due("knock()", 1, x.knock());
        C.due("knock()", 2, x.knock());
        C.due("house(17)", 2, x.house(17));
        C.due("steps", 1, x.house(16));
        C.due("words", 1, x.house(7));
        x.undo();
        C.due("house(17)", 2, x.house(17));
        C.due("knock()", 3, x.knock());
    }
}
