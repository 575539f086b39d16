import java.math.BigInteger;

/** The edges in what is asked (promises 30 to 45): numbers that are none, texts, totals, and the digest. */
public final class EdgeAskedTest {
    private static final Script S = new Script("EdgeAskedTest");
    private static final Check C = new Check("EdgeAskedTest");

    private static final String ONE_OUT = "3* member 0; contract 0 1 60; contract 2 0 40; 2* client 1; pay 0 0 100;"
            + "pay 4 0 12; pay 8 1 50; pay 6 1 50; trade 4 0 0 3 70; trade 6 8 1 4 40; settle";

    private EdgeAskedTest() { }

    public static void main(String[] args) {
        none();
        emptyHouse();
        fullHouse();
        members();
        series();
        texts();
        totals();
        trades();
        house();
        C.promise(45, "digest");
        digestWraps();
        wholeHouses();
        S.end();
        C.end();
    }

    private static void none() {
        S.sentence("NONE is -1");
        S.run("2* member 0; contract 0 0 50; option 0 1 50 5; scenario", "ofAccount 0 8 = -1", "ofAccount 0 9 = -1",
                "ofSeries 0 4 = -1", "ofSeries 0 5 = -1", "ofSeries 1 4 = 50", "ofSeries 1 5 = 0");
        S.sentence("the first SCENARIO with the greatest LOSS (NONE if no LOSS is above 0)");
        S.run("2* member 0; contract 0 0 50; trade 0 4 0 1 50", "ofAccount 0 9 = -1", "5* scenario",
                "ofAccount 0 9 = -1", "shift 4 0 -1 0", "ofAccount 0 9 = 4", "ofAccount 4 9 = -1", "shift 2 0 -1 0",
                "ofAccount 0 9 = 2", "shift 3 0 -2 0", "ofAccount 0 9 = 3", "shift 0 0 -2 0", "ofAccount 0 9 = 0",
                "shift 1 0 1 0", "ofAccount 4 9 = 1");
    }

    private static void emptyHouse() {
        S.sentence("Creates a house without members");
        S.run("house 0 = 0", "house 1 = 0", "house 2 = 0", "house 3 = 0", "house 4 = 0", "house 5 = 0", "house 6 = 0",
                "house 7 = 0", "house 8 = 0", "house 9 = 2", "house 10 = 5", "house 11 = 10", "house 12 = 0",
                "house 13 = 0", "house 14 = 0", "house 15 = 0", "house 16 = 0", "house 17 = 0", "house 18 ! value",
                "house -1 ! value", "calls =", "open =", "isSound = 1", "total 0 3 = 0", "total 1 6 = 0",
                "undo ! state", "knock = 1", "settle = 0", "isSound = 1");
    }

    private static void fullHouse() {
        S.sentence("the full house: 5 members, 20 accounts, 8 series, 5 scenarios");
        S.run("5* member 0; 2* client 0; 2* client 1; 2* client 2; 2* client 3; 2* client 4",
                "4* contract 0 5 99; 4* option 0 0 99 0", "5* scenario; shift 4 0 -20 -5", "house 0 = 5",
                "house 2 = 20", "house 3 = 8", "house 4 = 5", "trade 19 0 7 50 0", "trade 0 19 3 50 99",
                "position 19 7 = 50", "book 19 = 3:-50 7:50", "book 0 = 3:50 7:-50", "moved 4 3 = -45",
                "moved 4 7 = 45", "loss 19 4 = 0", "loss 0 4 = 4500", "ofAccount 0 4 = 4580", "ofAccount 19 7 = 80",
                "ofAccount 0 9 = 4", "member 0 ! state", "client 4 = -9", "contract 0 0 0 ! state",
                "option 0 1 0 0 ! state", "scenario ! state", "play 4 9 1 = 40500", "play 4 9 0 = 1",
                "use 19 7 50 19 = 1", "position 0 7 = 0", "position 0 3 = 50", "position 0 0 = 50",
                "position 19 0 = -50", "ofAccount 19 2 = 0", "deliver 19 0 50 19 = 1", "house 13 = 50",
                "ofAccount 0 2 = -4950", "isSound = 1", "settle = 1", "borne 0 4 = 4950", "open = 0",
                "ofSeries 3 7 = 50", "isSound = 1");
    }

    private static void members() {
        S.sentence("ofMember: 0 LINK, 1 STATE, 2 LIMIT, 3 and 4 FUND, 5 RISK, 6 SHARE, 7 what is missing, 8 ACCOUNTS");
        S.run("member 1; member 0; client 1", "ofMember 0 0 = 1", "ofMember 0 2 = 50", "ofMember 0 8 = 1",
                "ofMember 1 8 = 3", "give 1 1 9", "ofMember 1 3 = 0", "ofMember 1 4 = 9", "ofMember 1 7 = 0",
                "ofMember 2 0 ! index", "ofMember 0 9 ! value", "ofMember 0 -1 ! value", "ofMember 2 9 ! index",
                "ofMember min 0 ! index", "ofMember max 0 ! index");
    }

    private static void series() {
        S.sentence("the sum of POSITIONS above 0; GOOD and MONTH of an OPTION are those of its CONTRACT");
        S.run("3* member 0; contract 2 4 50; option 0 0 60 5", "ofSeries 0 7 = 0", "trade 0 4 0 3 50",
                "ofSeries 0 7 = 3", "trade 8 4 0 4 50", "ofSeries 0 7 = 7", "trade 4 1 0 2 50", "ofSeries 0 7 = 7",
                "ofSeries 1 0 = 2", "ofSeries 1 1 = 2", "ofSeries 1 2 = 4", "ofSeries 1 5 = 0", "ofSeries 1 7 = 0",
                "ofSeries 0 0 = 0", "option 0 1 60 5", "ofSeries 2 0 = 1", "ofSeries 3 0 ! index",
                "ofSeries 0 8 ! value", "ofSeries 3 8 ! index");
    }

    private static void texts() {
        S.sentence("its POSITIONS that are not 0, SERIES by SERIES, with a blank between two");
        S.run("2* member 0; 8* contract 0 0 50; limit 0 200; limit 1 200", "book 0 =", "4* trade 0 4 7 50 50",
                "book 0 = 7:200", "book 4 = 7:-200", "trade 4 0 0 1 50", "book 0 = 0:-1 7:200", "trade 0 4 0 1 50",
                "book 0 = 7:200", "book 1 =", "book 2 ! index", "book -1 ! index", "book min ! index",
                "book max ! index");
        S.sentence("all CALLS in their order, each as its ACCOUNT, @ and its DAY");
        S.run("5* member 0; contract 0 0 50; scenario; shift 0 0 -10 0; 10* settle",
                "trade 17 0 0 1 50; trade 1 0 0 1 50", "calls =", "call 17", "calls = 17@10", "call 1",
                "calls = 1@10 17@10", "call 0 = -9", "undo; undo", "settle", "calls = 1@11 17@11");
        S.sentence("MEMBER by MEMBER that is OUT its ACCOUNTS with a POSITION that is not 0");
        S.run("3* member 0; 2* client 2; contract 0 0 50; trade 0 4 0 1 51; trade 8 5 0 1 51",
                "trade 11 4 0 2 50; trade 9 4 0 1 50", "open =", "settle = 2", "open = 0 8 9 11", "sell 9 0 4 50",
                "open = 0 8 11", "tear 0 = 4", "open =");
        S.run(ONE_OUT, "open = 4 6", "move 6 0", "open = 4", "undo", "open = 4 6", "undo", "open =");
    }

    private static void totals() {
        S.sentence("the sum of DUE above 0, the sum of DUE below 0, without sign");
        S.run("3* member 0; contract 0 0 50; contract 2 0 50; trade 0 4 0 1 40; trade 8 0 0 1 57; trade 4 8 1 2 49",
                "total 0 5 = 17", "total 0 6 = 17", "total 1 5 = 2", "total 1 6 = 2", "total 0 0 = 0",
                "total 2 0 ! value", "total -1 0 ! value", "total 0 7 ! value", "total 0 -1 ! value");
        S.run("2* member 0; contract 0 0 50; trade 0 4 0 1 51", "total 0 5 = 1", "total 0 6 = 1", "ofSeries 0 7 = 1",
                "trade 0 4 0 1 49", "total 0 5 = 0", "total 0 6 = 0", "ofSeries 0 7 = 2");
        S.sentence("the sum of BALANCES, all in the FUND, the HOUSE's PART, PAID IN, PAID OUT");
        S.run(ONE_OUT, "total 0 0 = 112", "give 0 0 5; give 2 0 6; endow 0 7; take 0 0 8", "total 0 0 = 104",
                "total 0 1 = 11", "total 0 2 = 7", "total 0 3 = 130", "total 0 4 = 8", "total 1 0 = 100",
                "total 1 1 = 0", "total 1 3 = 100", "total 1 4 = 0");
    }

    private static void trades() {
        S.sentence("ofTrade: buyer, seller, SERIES, lots, price; a sale is none");
        S.run(ONE_OUT, "ofTrade 0 0 ! index", "sell 4 0 8 50", "ofTrade 0 0 ! index", "house 6 = 0",
                "trade 8 0 1 50 99 = 0", "ofTrade 0 0 = 8", "ofTrade 0 1 = 0", "ofTrade 0 2 = 1", "ofTrade 0 3 = 50",
                "ofTrade 0 4 = 99", "ofTrade 0 5 ! value", "ofTrade 0 -1 ! value", "ofTrade 1 0 ! index",
                "ofTrade 1 5 ! index", "ofTrade -1 0 ! index", "ofTrade min 0 ! index", "ofTrade max 0 ! index");
    }

    private static void house() {
        S.sentence("house: MEMBERS, GOOD ones, ACCOUNTS, SERIES, SCENARIOS, DAY, trades, WORDS, CALLS .. STEPS");
        S.run(ONE_OUT, "house 0 = 3", "house 1 = 2", "house 2 = 8", "house 3 = 2", "house 4 = 0", "house 5 = 1",
                "house 6 = 0", "house 7 = 0", "house 8 = 0", "house 16 = 8", "house 17 = 0", "house 18 ! value",
                "house -1 ! value", "house min ! value", "house max ! value");
    }

    /** The sum of the document without an end, of which the last 64 bits are due. */
    private static void digestWraps() {
        Marginhouse x = new Marginhouse();
        BigInteger d = BigInteger.valueOf(6902);
        for (int what = 0; what <= 17; what++) {
            d = mix(d, x.house(what));
        }
        d = mix(mix(d, 0), 0);
        for (int i = 0; i < 2 * 12; i++) {
            d = mix(d, 0);
        }
        d = mix(d, 1);
        C.due("the sum is too great for 64 bits", true, d.bitLength() > 64);
        C.due("digest()", d.longValue(), x.digest());
        Marginhouse y = new Marginhouse();
        y.scenario();
        BigInteger e = BigInteger.valueOf(6902);
        for (int what = 0; what <= 17; what++) {
            e = mix(e, y.house(what));
        }
        for (int i = 0; i < 2 + 2 * 12 + 5; i++) {
            e = mix(e, 0);
        }
        C.due("digest() with a scenario", mix(e, 1).longValue(), y.digest());
    }

    /** Each answer of houses with all kinds of things in them, in the order of the document. */
    private static void wholeHouses() {
        digestIsDue("member 0; member 1; member 0; client 0; contract 2 3 50; option 0 0 55 7; scenario; scenario",
                "shift 1 2 4 -3; pay 0 1 90; pay 2 0 8; give 0 1 3; trade 0 4 0 9 48; trade 8 2 1 3 2; call 4; knock");
        digestIsDue(ONE_OUT,
                "scenario; shift 0 2 20 5; scenario; shift 1 0 -20 -5; call 8; trade 8 0 1 3 50; trade 0 8 0 9 0",
                "option 1 0 50 9; give 2 0 4; endow 1 3; deliver 0 1 1 0");
        digestIsDue("5* member 0; 8* contract 0 0 50; trade 0 4 7 1 99; trade 8 12 6 2 0; settle; 5* scenario; tear 7");
    }

    private static void digestIsDue(String... lines) {
        Marginhouse x = new Marginhouse();
        Script.say(x, lines);
        BigInteger d = mixAll(BigInteger.valueOf(6902), x, "house", 18);
        int series = x.house(3);
        int scenarios = x.house(4);
        for (int member = 0; member < x.house(0); member++) {
            d = mixAll(d, x, "ofMember " + member, 9);
        }
        for (int account = 0; account < 20; account++) {
            String book = Script.answer(x, "book " + account);
            if (book.startsWith("!")) {
                continue;
            }
            d = mixAll(d, x, "ofAccount " + account, 10);
            d = mixAll(d, x, "position " + account, series);
            d = mixAll(d, x, "loss " + account, scenarios);
            d = mix(d, book.length());
        }
        for (int each = 0; each < series; each++) {
            d = mixAll(d, x, "ofSeries " + each, 8);
            for (int scenario = 0; scenario < scenarios; scenario++) {
                d = mix(d, x.moved(scenario, each));
            }
        }
        d = mix(mix(d, x.calls().length()), x.open().length());
        for (int money = 0; money < 2; money++) {
            d = mixAll(mixAll(d, x, "borne " + money, 5), x, "total " + money, 7);
        }
        for (int scenario = 0; scenario < scenarios; scenario++) {
            d = mixAll(d, x, "play " + scenario + " 2", 5);
        }
        for (int trade = 0; trade < x.house(6); trade++) {
            d = mixAll(d, x, "ofTrade " + trade, 5);
        }
        C.due("digest() of a house at work", mix(d, x.isSound() ? 1 : 0).longValue(), x.digest());
    }

    private static BigInteger mixAll(BigInteger begun, Marginhouse x, String call, int count) {
        BigInteger d = begun;
        for (int what = 0; what < count; what++) {
            d = mix(d, Long.parseLong(Script.answer(x, call + " " + what)));
        }
        return d;
    }

    private static BigInteger mix(BigInteger d, long v) {
        return d.multiply(BigInteger.valueOf(31)).add(BigInteger.valueOf(v));
    }
}
