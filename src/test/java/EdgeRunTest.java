/** "An object is used for at most 512 calls": runs as long as can be, and the greatest numbers that they make. */
public final class EdgeRunTest {
    private static final int MOST_CALLS = 512;
    private static final Check C = new Check("EdgeRunTest");

    private EdgeRunTest() { }

    public static void main(String[] args) {
        C.promise(44, "a run of 512 calls");
        wordsAlone();
        manyTrades();
        correctedAtLast();
        undoneAtLast();
        refusedAndAsked();
        manyDays();
        C.promise(31, "the greatest numbers of a run");
        greatestBalance();
        greatestPosition();
        C.end();
    }

    private static void wordsAlone() {
        Marginhouse x = new Marginhouse();
        x.member(false);
        for (int call = 2; call <= MOST_CALLS; call++) {
            C.due("pay()", call - 1, x.pay(0, 0, 1));
        }
        Marginhouse y = new Marginhouse();
        for (int call = 1; call < MOST_CALLS; call++) {
            y.endow(0, 1);
        }
        C.due("house(7)", MOST_CALLS - 1, y.house(7));
    }

    private static void manyTrades() {
        Marginhouse x = afterTrades(MOST_CALLS - 1);
        C.due("isSound()", true, x.isSound());
        C.due("the last trade", 36, afterTrades(MOST_CALLS - 1).ofTrade(507, 4));
        C.due("trades", 508, afterTrades(MOST_CALLS - 1).house(6));
        C.due("words", 511, afterTrades(MOST_CALLS - 1).house(7));
        C.due("the last one", 508, afterTrades(MOST_CALLS - 1).trade(0, 4, 0, 1, 50));
    }

    /** So many calls, the most of them trades of 1 lot, one of them the other way round; prices are 29 to 48. */
    private static Marginhouse afterTrades(int calls) {
        Marginhouse x = new Marginhouse();
        x.member(false);
        x.member(false);
        x.contract(0, 0, 30);
        for (int trade = 0; trade < calls - 3; trade++) {
            int buyer = trade % 2 * 4;
            C.due("trade()", trade, x.trade(buyer, 4 - buyer, 0, 1, 29 + trade % 20));
        }
        return x;
    }

    private static void correctedAtLast() {
        C.due("the last trade", 36, afterTrades(MOST_CALLS - 1).correct(507, 99));
        C.due("the first trade", 29, afterTrades(MOST_CALLS - 1).correct(0, 99));
        Marginhouse x = afterTrades(MOST_CALLS - 2);
        int due = afterTrades(MOST_CALLS - 2).ofAccount(0, 2);
        x.correct(0, 99);
        C.due("due of the buyer of the first trade", due - 70, x.ofAccount(0, 2));
        Marginhouse y = afterTrades(MOST_CALLS - 2);
        y.correct(506, 0);
        C.due("isSound()", true, y.isSound());
    }

    private static void undoneAtLast() {
        C.due("undo()", 7, afterTrades(MOST_CALLS - 1).undo());
        Marginhouse x = afterTrades(MOST_CALLS - 3);
        x.undo();
        x.undo();
        C.due("a trade of the same number again", 504, x.trade(0, 4, 0, 1, 50));
        Marginhouse y = afterTrades(MOST_CALLS - 1);
        C.due("settle(), by which the one that lost is out", 1, y.settle());
    }

    private static void refusedAndAsked() {
        Marginhouse x = new Marginhouse();
        x.member(false);
        for (int call = 2; call < MOST_CALLS; call += 2) {
            C.due("take()", -9, x.take(0, 0, 1));
            C.due("house(7)", 1, x.house(7));
        }
        C.due("house(16)", 1, x.house(16));
        Marginhouse y = new Marginhouse();
        for (int call = 1; call <= MOST_CALLS; call++) {
            C.due("knock()", call, y.knock());
        }
    }

    private static void manyDays() {
        Marginhouse x = new Marginhouse();
        Script.say(x, "2* member 0; contract 0 0 50; trade 0 4 0 5 50; pay 0 0 500; pay 4 0 500");
        for (int day = 0; day < 99; day++) {
            int price = day % 2 == 0 ? 90 : 10;
            C.due("settle()", 0, x.settle());
            C.due("price()", day == 0 ? 50 : 100 - price, x.price(0, price));
            C.due("trade()", 0, x.trade(0, 4, 0, 1, price));
            C.due("trade()", 1, x.trade(4, 0, 0, 1, price));
            C.due("correct()", price, x.correct(1, price));
        }
        C.due("house(5)", 99, x.house(5));
        C.due("isSound()", true, x.isSound());
    }

    private static void greatestBalance() {
        Marginhouse x = new Marginhouse();
        x.member(false);
        x.rate(9);
        for (int call = 3; call <= 509; call++) {
            x.pay(0, 1, 9999);
        }
        C.due("balance", 507 * 9999, x.ofAccount(0, 1));
        C.due("cover", 507 * 9999 * 9, x.ofAccount(0, 5));
        C.due("total", 507 * 9999, x.total(1, 0));
        Marginhouse y = new Marginhouse();
        y.member(false);
        y.rate(9);
        for (int call = 3; call <= 511; call++) {
            y.give(0, 1, 9999);
        }
        C.due("what is missing of a share", 0, y.ofMember(0, 7));
    }

    /** Options bought and used in turn make a position in the contract that no limit holds. */
    private static void greatestPosition() {
        Marginhouse x = new Marginhouse();
        Script.say(x, "2* member 0; contract 2 5 50; option 0 1 0 0; scenario; shift 0 2 -20 -5", "rate 9; big 2 0 9",
                "stress 50");
        for (int times = 0; times < 240; times++) {
            C.due("trade()", times, x.trade(0, 4, 1, 50, 0));
            C.due("use()", 1, x.use(0, 1, 50, times % 20));
        }
        int lots = 240 * 50;
        C.due("position", lots, x.position(0, 0));
        C.due("the other position", -lots, x.position(4, 0));
        C.due("due", lots * 50, x.ofAccount(0, 3));
        C.due("loss", lots * 45 * 9, x.loss(0, 0));
        C.due("deposit", lots * 45 * 9 + lots * 81, x.ofAccount(0, 4));
        C.due("lacks", lots * 45 * 9 + lots * 81, x.ofAccount(0, 6));
        C.due("the other one lacks", lots * 81 + lots * 50 * 9, x.ofAccount(4, 6));
        C.due("target", (lots * 45 * 9 + lots * 81 + lots * 81) * 5, x.house(12));
        C.due("share of the greater risk", (lots * 45 * 9 + lots * 81) * 5, x.ofMember(0, 6));
        C.due("share of the other one", lots * 81 * 5, x.ofMember(1, 6));
        C.due("short, played 9 times", lots * (9 * 45 - 50), x.play(0, 9, 2));
        C.due("borne by gains", lots * (9 * 45 - 50), x.play(0, 9, 3));
        C.due("isSound()", true, x.isSound());
    }
}
