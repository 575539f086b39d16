/** Promises 1 to 13: a new object; members, series, scenarios and what deposits are reckoned by. */
public final class SetupTest {
    private static final int LOWEST = Integer.MIN_VALUE;
    private static final int HIGHEST = Integer.MAX_VALUE;
    private static final Check C = new Check("SetupTest");

    private SetupTest() { }

    public static void main(String[] args) {
        newObject();
        member();
        client();
        limit();
        contract();
        option();
        scenario();
        shift();
        rate();
        counts();
        offset();
        big();
        stress();
        C.end();
    }

    private static void newObject() {
        C.promise(1, "a new object");
        Marginhouse x = new Marginhouse();
        int[] first = {0, 0, 0, 0, 0, 0, 0, 0, 0, 2, 5, 10, 0, 0, 0, 0, 0, 0};
        for (int what = 0; what < first.length; what++) {
            C.due("house(" + what + ")", first[what], x.house(what));
        }
        for (int money = 0; money < 2; money++) {
            for (int what = 0; what <= 6; what++) {
                C.due("total(" + money + ", " + what + ")", 0, x.total(money, what));
            }
        }
        C.due("calls()", "", x.calls());
        C.due("open()", "", x.open());
        C.due("isSound()", true, x.isSound());
        x.member(false);
        C.due("members of another one", 0, new Marginhouse().house(0));
    }

    private static void member() {
        C.promise(2, "member");
        Marginhouse x = new Marginhouse();
        C.due("member(false)", 0, x.member(false));
        C.due("member(true)", 1, x.member(true));
        C.due("is no link", 0, x.ofMember(0, 0));
        C.due("is a link", 1, x.ofMember(1, 0));
        C.due("state", 0, x.ofMember(0, 1));
        C.due("limit", 50, x.ofMember(1, 2));
        C.due("accounts of a member", 2, x.ofMember(0, 8));
        C.due("accounts of a link", 1, x.ofMember(1, 8));
        C.due("its own", 7, x.pay(4, 0, 7));
        C.noIndex("a link has no account together", x, () -> x.pay(5, 0, 7));
        for (int number = 2; number < 5; number++) {
            C.due("member(false)", number, x.member(false));
        }
        C.noState("a sixth member", x, () -> x.member(false));
        C.noState("a sixth member, a link", x, () -> x.member(true));
        C.due("steps", 6, x.house(16));
        C.due("words", 6, x.house(7));
    }

    private static void client() {
        C.promise(3, "client");
        Marginhouse x = Houses.withOneOut();
        C.due("client(0)", 2, x.client(0));
        C.due("client(0)", 3, x.client(0));
        C.refused("a third client apart", x, () -> x.client(0));
        C.due("accounts", 4, x.ofMember(0, 8));
        C.due("its balance", 0, x.ofAccount(3, 0));
        C.noState("client of one that is out", x, () -> x.client(1));
        int link = x.member(true);
        C.noState("client of a link", x, () -> x.client(link));
        C.noIndex("client(-1)", x, () -> x.client(-1));
        C.noIndex("client(members)", x, () -> x.client(link + 1));
        C.noIndex("client(lowest)", x, () -> x.client(LOWEST));
        C.noIndex("client(highest)", x, () -> x.client(HIGHEST));
    }

    private static void limit() {
        C.promise(4, "limit");
        Marginhouse x = new Marginhouse();
        x.member(false);
        x.member(false);
        x.contract(0, 0, 50);
        C.due("limit(0, 1)", 50, x.limit(0, 1));
        C.due("limit(0, 200)", 1, x.limit(0, 200));
        C.due("limit", 200, x.ofMember(0, 2));
        C.due("of the other", 50, x.ofMember(1, 2));
        C.noValue("limit(0, 0)", x, () -> x.limit(0, 0));
        C.noValue("limit(0, 201)", x, () -> x.limit(0, 201));
        C.noIndex("limit(-1, 5)", x, () -> x.limit(-1, 5));
        C.noIndex("limit(2, 0): the index first", x, () -> x.limit(2, 0));
        x.limit(1, 3);
        C.refused("a trade above the limit of the seller", x, () -> x.trade(0, 4, 0, 4, 50));
        C.due("a trade up to it", 0, x.trade(0, 4, 0, 3, 50));
    }

    private static void contract() {
        C.promise(5, "contract");
        Marginhouse x = new Marginhouse();
        C.noValue("good -1", x, () -> x.contract(-1, 0, 0));
        C.noValue("good 3", x, () -> x.contract(3, 0, 0));
        C.noValue("month -1", x, () -> x.contract(0, -1, 0));
        C.noValue("month 6", x, () -> x.contract(0, 6, 0));
        C.noValue("price -1", x, () -> x.contract(0, 0, -1));
        C.noValue("price 100", x, () -> x.contract(0, 0, 100));
        C.due("the smallest", 0, x.contract(0, 0, 0));
        C.due("the greatest", 1, x.contract(2, 5, 99));
        int[] due = {0, 2, 5, 99, -1, -1, 1, 0};
        for (int what = 0; what < due.length; what++) {
            C.due("ofSeries(1, " + what + ")", due[what], x.ofSeries(1, what));
        }
        C.noState("its price is told on this day", x, () -> x.price(1, 5));
        for (int number = 2; number < 8; number++) {
            C.due("contract", number, x.contract(1, 1, 1));
        }
        C.noState("a ninth series", x, () -> x.contract(1, 1, 1));
        C.noValue("a ninth of a wrong good: the value first", x, () -> x.contract(3, 1, 1));
    }

    private static void option() {
        C.promise(6, "option");
        Marginhouse x = new Marginhouse();
        x.contract(1, 4, 30);
        C.due("a call", 1, x.option(0, true, 0, 0));
        C.due("a put", 2, x.option(0, false, 99, 99));
        int[] call = {1, 1, 4, 0, 0, 0, 1, 0};
        int[] put = {2, 1, 4, 99, 99, 0, 1, 0};
        for (int what = 0; what < call.length; what++) {
            C.due("ofSeries(1, " + what + ")", call[what], x.ofSeries(1, what));
            C.due("ofSeries(2, " + what + ")", put[what], x.ofSeries(2, what));
        }
        C.noState("its price is told on this day", x, () -> x.price(2, 5));
        C.noIndex("option(-1)", x, () -> x.option(-1, true, 5, 5));
        C.noIndex("option(3), strike 100: the index first", x, () -> x.option(3, true, 100, 5));
        C.noValue("an option on an option", x, () -> x.option(1, true, 5, 5));
        C.noValue("strike -1", x, () -> x.option(0, true, -1, 5));
        C.noValue("strike 100", x, () -> x.option(0, true, 100, 5));
        C.noValue("price -1", x, () -> x.option(0, true, 5, -1));
        C.noValue("price 100", x, () -> x.option(0, true, 5, 100));
        for (int number = 3; number < 8; number++) {
            C.due("option", number, x.option(0, true, 5, 5));
        }
        C.noState("a ninth series", x, () -> x.option(0, true, 5, 5));
        C.noValue("a ninth, on an option: the value first", x, () -> x.option(1, true, 5, 5));
        C.noIndex("a ninth, on none: the index first", x, () -> x.option(8, true, 5, 5));
    }

    private static void scenario() {
        C.promise(7, "scenario");
        Marginhouse x = new Marginhouse();
        x.contract(0, 3, 50);
        for (int number = 0; number < 5; number++) {
            C.due("scenario()", number, x.scenario());
            C.due("moved in it", 0, x.moved(number, 0));
        }
        C.noState("a sixth scenario", x, x::scenario);
        C.due("scenarios", 5, x.house(4));
    }

    private static void shift() {
        C.promise(8, "shift");
        Marginhouse x = new Marginhouse();
        x.contract(0, 3, 50);
        x.contract(1, 3, 50);
        x.scenario();
        x.scenario();
        C.due("the smallest", 0, x.shift(0, 0, -20, -5));
        C.due("moved", -35, x.moved(0, 0));
        C.due("another good", 0, x.moved(0, 1));
        C.due("another scenario", 0, x.moved(1, 0));
        C.due("the greatest", -20, x.shift(0, 0, 20, 5));
        C.due("moved", 35, x.moved(0, 0));
        x.shift(0, 0, -9, 0);
        int words = x.house(7);
        C.due("a shift of -9 before is no refusal", -9, x.shift(0, 0, 4, 1));
        C.due("moved", 7, x.moved(0, 0));
        C.due("it is a word", words + 1, x.house(7));
        C.due("and a step", 7, x.undo());
        C.due("moved", -9, x.moved(0, 0));
        C.noIndex("shift(-1)", x, () -> x.shift(-1, 0, 0, 0));
        C.noIndex("shift(2), good 3: the index first", x, () -> x.shift(2, 3, 0, 0));
        C.noValue("good -1", x, () -> x.shift(0, -1, 0, 0));
        C.noValue("good 3", x, () -> x.shift(0, 3, 0, 0));
        C.noValue("shift -21", x, () -> x.shift(0, 0, -21, 0));
        C.noValue("shift 21", x, () -> x.shift(0, 0, 21, 0));
        C.noValue("tilt -6", x, () -> x.shift(0, 0, 0, -6));
        C.noValue("tilt 6", x, () -> x.shift(0, 0, 0, 6));
    }

    private static void rate() {
        C.promise(9, "rate");
        Marginhouse x = new Marginhouse();
        x.member(false);
        x.pay(0, 1, 10);
        C.due("cover at first", 20, x.ofAccount(0, 5));
        C.due("rate(1)", 2, x.rate(1));
        C.due("cover", 10, x.ofAccount(0, 5));
        C.due("rate(9)", 1, x.rate(9));
        C.due("cover", 90, x.ofAccount(0, 5));
        C.due("house(9)", 9, x.house(9));
        x.undo();
        C.due("undone", 1, x.house(9));
        C.noValue("rate(0)", x, () -> x.rate(0));
        C.noValue("rate(10)", x, () -> x.rate(10));
        C.noValue("rate(lowest)", x, () -> x.rate(LOWEST));
    }

    private static void counts() {
        C.promise(10, "counts");
        Marginhouse x = new Marginhouse();
        x.member(false);
        x.pay(0, 0, 19);
        x.pay(0, 1, 7);
        C.due("counts(0, 0)", 10, x.counts(0, 0));
        C.due("cover of money 1 alone", 14, x.ofAccount(0, 5));
        C.due("counts(0, 9)", 0, x.counts(0, 9));
        C.due("counts(1, 9)", 10, x.counts(1, 9));
        // 19 * 9 / 10 and 14 * 9 / 10, each rounded down.
        C.due("cover", 17 + 12, x.ofAccount(0, 5));
        C.due("counts(0, 10)", 9, x.counts(0, 10));
        C.noValue("money -1", x, () -> x.counts(-1, 5));
        C.noValue("money 2", x, () -> x.counts(2, 5));
        C.noValue("tenths -1", x, () -> x.counts(0, -1));
        C.noValue("tenths 11", x, () -> x.counts(0, 11));
    }

    private static void offset() {
        C.promise(11, "offset");
        Marginhouse x = new Marginhouse();
        x.member(false);
        x.member(false);
        x.contract(0, 0, 50);
        x.contract(1, 0, 50);
        x.scenario();
        x.shift(0, 0, -10, 0);
        x.shift(0, 1, 3, 0);
        x.trade(0, 4, 0, 5, 50);
        x.trade(0, 4, 1, 5, 50);
        C.due("15 by 5 tenths, rounded down, off 50", 43, x.loss(0, 0));
        C.due("offset(0)", 5, x.offset(0));
        C.due("loss", 50, x.loss(0, 0));
        C.due("offset(10)", 0, x.offset(10));
        C.due("loss", 35, x.loss(0, 0));
        C.due("house(10)", 10, x.house(10));
        x.undo();
        C.due("undone", 0, x.house(10));
        C.noValue("offset(-1)", x, () -> x.offset(-1));
        C.noValue("offset(11)", x, () -> x.offset(11));
    }

    private static void big() {
        C.promise(12, "big");
        Marginhouse x = new Marginhouse();
        x.member(false);
        x.member(false);
        x.contract(0, 0, 50);
        x.contract(2, 0, 50);
        x.trade(0, 4, 0, 24, 50);
        x.trade(0, 4, 1, 23, 50);
        C.due("4, and 3 by rate 2", 10, x.ofAccount(0, 7));
        C.due("without sign", 10, x.ofAccount(4, 7));
        C.due("big(0, 0, 9)", 20, x.big(0, 0, 9));
        C.due("add", 24 * 9 + 6, x.ofAccount(0, 7));
        C.due("big(0, 200, 0)", 0, x.big(0, 200, 0));
        C.due("add", 6, x.ofAccount(0, 7));
        C.due("big(2, 22, 9)", 20, x.big(2, 22, 9));
        C.due("add", 18, x.ofAccount(0, 7));
        C.noValue("good -1", x, () -> x.big(-1, 5, 5));
        C.noValue("good 3", x, () -> x.big(3, 5, 5));
        C.noValue("lots -1", x, () -> x.big(0, -1, 5));
        C.noValue("lots 201", x, () -> x.big(0, 201, 5));
        C.noValue("more -1", x, () -> x.big(0, 5, -1));
        C.noValue("more 10", x, () -> x.big(0, 5, 10));
    }

    private static void stress() {
        C.promise(13, "stress");
        Marginhouse x = new Marginhouse();
        x.member(false);
        x.member(false);
        x.contract(0, 0, 50);
        x.trade(0, 4, 0, 21, 50);
        C.due("target: two risks of 1", 2, x.house(12));
        C.due("stress(0)", 10, x.stress(0));
        C.due("target", 0, x.house(12));
        C.due("stress(50)", 0, x.stress(50));
        C.due("target", 10, x.house(12));
        x.stress(11);
        C.due("target is rounded up", 3, x.house(12));
        C.due("house(11)", 11, x.house(11));
        x.undo();
        C.due("undone", 50, x.house(11));
        C.noValue("stress(-1)", x, () -> x.stress(-1));
        C.noValue("stress(51)", x, () -> x.stress(51));
    }
}
