/** Promises 21, 37 and 39: the end of a day, what was borne, and scenarios played. */
public final class SettleTest {
    private static final Check C = new Check("SettleTest");

    private SettleTest() { }

    public static void main(String[] args) {
        gainsAndLosses();
        ownPaysForItsClients();
        ladder();
        ladderEndsEarly();
        whoIsOutIsNotAsked();
        gainsSpread();
        shortTwice();
        callsFallDue();
        lastDay();
        borne();
        play();
        playWithOptions();
        playWrongly();
        C.end();
    }

    private static Marginhouse withMembers(int count) {
        Marginhouse x = new Marginhouse();
        for (int i = 0; i < count; i++) {
            x.member(false);
        }
        x.contract(0, 0, 50);
        x.contract(2, 0, 50);
        return x;
    }

    private static void borneIs(Marginhouse x, int money, int... want) {
        for (int what = 0; what < want.length; what++) {
            C.due("borne(" + money + ", " + what + ")", want[what], x.borne(money, what));
        }
    }

    private static void gainsAndLosses() {
        C.promise(21, "settle");
        Marginhouse x = withMembers(2);
        x.pay(0, 0, 30);
        x.pay(0, 1, 40);
        x.trade(0, 4, 0, 3, 55);
        x.trade(4, 1, 1, 2, 45);
        x.pay(1, 1, 10);
        C.due("settle()", 0, x.settle());
        C.due("paid", 15, x.ofAccount(0, 0));
        C.due("got", 15, x.ofAccount(4, 0));
        C.due("paid in money 1", 0, x.ofAccount(1, 1));
        C.due("got in money 1", 10, x.ofAccount(4, 1));
        C.due("due", 0, x.ofAccount(0, 2));
        C.due("due", 0, x.ofAccount(4, 3));
        C.due("positions stay", 3, x.position(0, 0));
        C.due("day", 1, x.house(5));
        C.due("words", 0, x.house(7));
        C.due("trades", 0, x.house(6));
        C.due("told", 0, x.ofSeries(0, 6));
        C.due("it is a step", 8, x.house(16));
    }

    private static void ownPaysForItsClients() {
        C.promise(21, "settle, own pays for its clients");
        Marginhouse x = withMembers(2);
        x.client(0);
        x.client(0);
        x.pay(0, 0, 12);
        x.pay(1, 0, 4);
        x.pay(3, 0, 100);
        x.trade(1, 4, 0, 1, 60);
        x.trade(2, 4, 0, 1, 55);
        x.trade(3, 4, 0, 1, 51);
        C.due("settle()", 0, x.settle());
        C.due("own: 12 less 6 and 5", 1, x.ofAccount(0, 0));
        C.due("together", 0, x.ofAccount(1, 0));
        C.due("apart", 99, x.ofAccount(3, 0));
        C.due("the seller", 16, x.ofAccount(4, 0));
        borneIs(x, 0, 0, 0, 0, 0, 0);
        Marginhouse y = withMembers(2);
        y.client(0);
        y.pay(0, 0, 7);
        y.trade(2, 4, 0, 1, 60);
        y.trade(1, 4, 0, 1, 54);
        C.due("together is paid for first, and it is out", 1, y.settle());
        borneIs(y, 0, 7, 0, 0, 0, 7);
    }

    /** Member 0 is short of 30, has 3 in the fund; the house has 5, members 1 and 2 have 7 and 4 in the fund. */
    private static Marginhouse shortOf30() {
        Marginhouse x = withMembers(3);
        x.pay(0, 0, 10);
        x.give(0, 0, 3);
        x.endow(0, 5);
        x.give(1, 0, 7);
        x.give(2, 0, 4);
        x.trade(0, 4, 0, 5, 55);
        x.trade(0, 8, 0, 3, 55);
        return x;
    }

    private static void ladder() {
        C.promise(21, "settle, the ladder");
        Marginhouse x = shortOf30();
        C.due("settle()", 1, x.settle());
        borneIs(x, 0, 30, 3, 5, 11, 11);
        borneIs(x, 1, 0, 0, 0, 0, 0);
        C.due("out", 1, x.ofMember(0, 1));
        // 11 spread by 25 and 15: 6 and 4, and 1 more for the first.
        C.due("gain less 7", 18, x.ofAccount(4, 0));
        C.due("gain less 4", 11, x.ofAccount(8, 0));
        C.due("own balance", 0, x.ofAccount(0, 0));
        C.due("the fund", 0, x.total(0, 1));
        C.due("the part", 0, x.total(0, 2));
        C.due("isSound()", true, x.isSound());
    }

    private static void ladderEndsEarly() {
        C.promise(21, "settle, a ladder that ends early");
        Marginhouse x = shortOf30();
        x.endow(0, 17);
        x.settle();
        borneIs(x, 0, 30, 3, 22, 5, 0);
        // 5 spread by 7 and 4: 3 and 1, and 1 more for the first.
        C.due("fund of member 1", 3, x.ofMember(1, 3));
        C.due("fund of member 2", 3, x.ofMember(2, 3));
        C.due("gain", 25, x.ofAccount(4, 0));
        Marginhouse y = shortOf30();
        y.endow(0, 23);
        y.settle();
        borneIs(y, 0, 30, 3, 27, 0, 0);
        C.due("the part", 1, y.total(0, 2));
        Marginhouse z = shortOf30();
        z.give(0, 0, 28);
        z.settle();
        borneIs(z, 0, 30, 30, 0, 0, 0);
        C.due("fund of its own", 1, z.ofMember(0, 3));
        C.due("the part", 5, z.total(0, 2));
    }

    private static void whoIsOutIsNotAsked() {
        C.promise(21, "settle, who is out by the other money is not asked");
        Marginhouse x = withMembers(3);
        x.give(1, 0, 50);
        x.give(2, 0, 1);
        x.trade(0, 8, 0, 1, 59);
        x.trade(4, 8, 1, 1, 53);
        C.due("settle()", 2, x.settle());
        borneIs(x, 0, 9, 0, 0, 1, 8);
        borneIs(x, 1, 3, 0, 0, 0, 3);
        C.due("fund of member 1", 50, x.ofMember(1, 3));
    }

    private static void gainsSpread() {
        C.promise(21, "settle, gains of all kinds of accounts");
        Marginhouse x = Houses.withOneOut();
        // Account 6 is of member 1 that is out, and gains; account 8 loses 40 and has 50, 20 of it are taken first.
        x.take(8, 1, 20);
        x.price(1, 50);
        C.due("settle()", 1, x.settle());
        borneIs(x, 1, 10, 0, 0, 0, 10);
        C.due("gain of one that is out", 50 + 30, x.ofAccount(6, 1));
        C.due("isSound()", true, x.isSound());
    }

    private static void shortTwice() {
        C.promise(21, "settle, one that is out is short again");
        Marginhouse x = withMembers(2);
        x.give(0, 0, 9);
        x.trade(0, 4, 0, 1, 54);
        C.due("settle()", 1, x.settle());
        C.due("fund", 5, x.ofMember(0, 3));
        x.price(0, 42);
        C.due("settle(), by which none is out", 0, x.settle());
        borneIs(x, 0, 8, 5, 0, 0, 3);
        x.settle();
        borneIs(x, 0, 0, 0, 0, 0, 0);
    }

    private static void callsFallDue() {
        C.promise(21, "settle, calls");
        Marginhouse x = withMembers(3);
        x.client(1);
        x.scenario();
        x.shift(0, 0, -10, 0);
        x.trade(6, 0, 0, 2, 50);
        x.trade(8, 0, 0, 1, 50);
        C.due("settle()", 0, x.settle());
        C.due("calls for the next day", "6@1 8@1", x.calls());
        x.pay(8, 0, 10);
        C.due("6 lacks still", 1, x.settle());
        C.due("out", 1, x.ofMember(1, 1));
        C.due("not out", 0, x.ofMember(2, 1));
        C.due("one that is out gets no call", "", x.calls());
        C.due("settle()", 0, x.settle());
        Marginhouse y = withMembers(2);
        y.scenario();
        y.shift(0, 0, -10, 0);
        y.pay(4, 0, 20);
        y.pay(0, 0, 15);
        y.trade(4, 0, 0, 2, 50);
        y.settle();
        y.price(0, 49);
        C.due("due below 0 makes it lack", 2, y.ofAccount(4, 6));
        y.call(4);
        C.due("a call of this day", 1, y.settle());
    }

    private static void lastDay() {
        C.promise(21, "settle, the last day");
        Marginhouse x = withMembers(2);
        x.scenario();
        x.shift(0, 0, 5, 0);
        x.trade(0, 4, 0, 1, 50);
        x.pay(4, 0, 5);
        for (int day = 0; day < 99; day++) {
            C.due("settle()", 0, x.settle());
        }
        C.due("day", 99, x.house(5));
        C.noState("no day behind 99", x, x::settle);
        C.due("but it can be played", 1, x.play(0, 2, 0));
        C.due("day", 99, x.house(5));
        x.undo();
        C.due("day", 98, x.house(5));
        C.due("settle()", 0, x.settle());
    }

    private static void borne() {
        C.promise(37, "borne");
        Marginhouse x = new Marginhouse();
        borneIs(x, 0, 0, 0, 0, 0, 0);
        borneIs(x, 1, 0, 0, 0, 0, 0);
        C.noValue("money -1", x, () -> x.borne(-1, 0));
        C.noValue("money 2", x, () -> x.borne(2, 0));
        C.noValue("what -1", x, () -> x.borne(0, -1));
        C.noValue("what 5", x, () -> x.borne(0, 5));
        Marginhouse y = shortOf30();
        y.settle();
        y.undo();
        borneIs(y, 0, 0, 0, 0, 0, 0);
    }

    private static void play() {
        C.promise(39, "play");
        Marginhouse x = withMembers(3);
        x.scenario();
        x.shift(0, 0, -5, 0);
        x.shift(0, 2, 4, 0);
        x.pay(0, 0, 100);
        x.pay(8, 1, 10);
        x.trade(0, 4, 0, 6, 50);
        x.trade(4, 8, 1, 3, 50);
        long before = x.digest();
        // Once: 0 pays 30 of 100 and needs 30; 8 is short of 2, and has deposit 24.
        C.due("out, once", 1, x.play(0, 1, 0));
        C.due("short in money 0, once", 0, x.play(0, 1, 1));
        C.due("short in money 1, once", 2, x.play(0, 1, 2));
        C.due("gains, once", 2, x.play(0, 1, 3));
        C.due("calls, once", 0, x.play(0, 1, 4));
        // Three times: 0 pays 90, has 10 left, and gets a call; 8 is short of 26.
        C.due("calls, three times", 1, x.play(0, 3, 4));
        C.due("short in money 1, three times", 26, x.play(0, 3, 2));
        // Nine times: the price is 5, 0 pays 270 of 100.
        C.due("out, nine times", 2, x.play(0, 9, 0));
        C.due("short in money 0, nine times", 170, x.play(0, 9, 1));
        C.due("gains in both, nine times", 170 + 98, x.play(0, 9, 3));
        C.due("nothing has changed", before, x.digest());
        C.due("steps", 8, x.house(16));
    }

    private static void playWithOptions() {
        C.promise(39, "play, with options and prices below 0");
        Marginhouse x = withMembers(2);
        x.option(0, false, 45, 1);
        x.scenario();
        x.shift(0, 0, -20, 0);
        x.trade(0, 4, 2, 2, 1);
        // The put is worth 0 now, 15 at 30, and 45 + 130 at -130.
        C.due("short, once", 30, x.play(0, 1, 1));
        C.due("short, nine times", 350, x.play(0, 9, 1));
        // At -130 the call that moves to -150 asks for 20 more of each lot of the seller; but it is out.
        C.due("calls", 0, x.play(0, 9, 4));
        x.pay(4, 0, 350);
        C.due("short", 0, x.play(0, 9, 1));
        C.due("calls: at the new prices it lacks 40", 1, x.play(0, 9, 4));
        x.pay(4, 0, 40);
        C.due("calls", 0, x.play(0, 9, 4));
    }

    private static void playWrongly() {
        C.promise(39, "play, wrong inputs");
        Marginhouse x = withMembers(1);
        C.noIndex("no scenario", x, () -> x.play(0, 1, 0));
        x.scenario();
        C.noIndex("scenario -1", x, () -> x.play(-1, 1, 0));
        C.noIndex("scenario 1, 0 times: the index first", x, () -> x.play(1, 0, 0));
        C.noValue("0 times", x, () -> x.play(0, 0, 0));
        C.noValue("10 times", x, () -> x.play(0, 10, 0));
        C.noValue("what -1", x, () -> x.play(0, 1, -1));
        C.noValue("what 5", x, () -> x.play(0, 1, 5));
        C.due("it can be asked 9 times", 0, x.play(0, 9, 4));
    }
}
