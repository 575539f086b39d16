/** The edges in part 5 of the document's description: the fund, scenarios played, words, corrections, and steps. */
public final class EdgeFundTest {
    private static final Script S = new Script("EdgeFundTest");

    private EdgeFundTest() { }

    public static void main(String[] args) {
        risks();
        targets();
        shares();
        plays();
        playedEnds();
        words();
        corrections();
        correctionsRefused();
        correctionsOfDays();
        steps();
        stepsOverDays();
        knocks();
        S.end();
    }

    /** Each lot is a deposit of 1, as MORE is 1 and BIG 0. */
    private static final String LOTS = "5* member 0; contract 0 0 50; big 0 0 1";

    private static void risks() {
        S.sentence("RISK of a MEMBER: the sum of DEPOSITS of its ACCOUNTS");
        S.run(LOTS, "2* client 0", "ofMember 0 5 = 0", "trade 0 4 0 1 50", "trade 1 4 0 2 50", "trade 2 5 0 3 50",
                "trade 3 5 0 4 50", "ofMember 0 5 = 10", "ofMember 1 5 = 10", "ofMember 2 5 = 0", "trade 0 1 0 5 50",
                "ofMember 0 5 = 16");
    }

    private static void targets() {
        S.sentence("the two greatest RISKS of GOOD MEMBERS that are no LINKS, together");
        S.run("house 12 = 0", "member 0", "house 12 = 0", "contract 0 0 50; big 0 0 1; trade 0 1 0 3 50",
                "house 12 = 6", "member 0", "house 12 = 6", "trade 4 5 0 2 50", "house 12 = 10", "member 0",
                "trade 8 9 0 1 50", "house 12 = 10", "trade 8 9 0 1 50", "house 12 = 10", "trade 8 9 0 1 50",
                "house 12 = 12", "trade 8 9 0 1 50", "house 12 = 14");
        S.run("member 1; 2* member 0; contract 0 0 50; big 0 0 1; trade 0 4 0 3 50; trade 0 8 0 2 50",
                "ofMember 0 5 = 5", "house 12 = 5", "ofMember 0 6 = 0", "ofMember 1 6 = 3", "ofMember 2 6 = 2");
        S.run(LOTS, "trade 0 4 0 5 51", "trade 4 8 0 1 50", "house 12 = 9", "settle = 1", "house 12 = 5",
                "ofMember 0 5 = 5", "ofMember 0 6 = 0", "ofMember 1 6 = 4", "ofMember 2 6 = 1");
        S.sentence("times STRESS (tenths, 0 to 50; 10 at first) / 10, rounded up");
        S.run(LOTS, "trade 0 4 0 1 50", "house 11 = 10", "house 12 = 2", "stress 0 = 10", "house 12 = 0",
                "stress 1 = 0", "house 12 = 1", "stress 5 = 1", "house 12 = 1", "stress 6 = 5", "house 12 = 2",
                "stress 10 = 6", "house 12 = 2", "stress 11 = 10", "house 12 = 3", "stress 50 = 11", "house 12 = 10",
                "stress 51 ! value", "stress -1 ! value", "stress min ! value", "stress max ! value",
                "house 11 = 50");
        S.run("member 0; member 1; contract 0 0 50; big 0 0 1; trade 0 4 0 1 50", "house 12 = 1", "stress 0",
                "house 12 = 0", "stress 1", "house 12 = 1", "stress 9", "house 12 = 1", "stress 11", "house 12 = 2",
                "stress 20", "house 12 = 2", "stress 21", "house 12 = 3", "stress 50", "house 12 = 5");
    }

    private static void shares() {
        S.sentence("FUND SHARES: TARGET SPREAD over GOOD MEMBERS that are no LINKS by RISK");
        S.run(LOTS, "trade 4 8 0 1 50", "trade 16 8 0 1 50", "stress 50", "house 12 = 15", "ofMember 0 6 = 0",
                "ofMember 1 6 = 4", "ofMember 2 6 = 8", "ofMember 3 6 = 0", "ofMember 4 6 = 3", "stress 3",
                "house 12 = 1", "ofMember 0 6 = 0", "ofMember 1 6 = 1", "ofMember 2 6 = 0", "ofMember 4 6 = 0",
                "stress 0", "ofMember 1 6 = 0");
        S.run(LOTS, "trade 0 4 0 1 50", "trade 12 16 0 1 50", "stress 5", "ofMember 0 6 = 1", "ofMember 1 6 = 0",
                "stress 15", "ofMember 0 6 = 1", "ofMember 1 6 = 1", "ofMember 2 6 = 0", "ofMember 3 6 = 1",
                "ofMember 4 6 = 0", "stress 30", "ofMember 0 6 = 2", "ofMember 1 6 = 2", "ofMember 2 6 = 0",
                "ofMember 3 6 = 1", "ofMember 4 6 = 1");
        S.sentence("(0 each, if all RISKS are 0)");
        S.run("ofMember 0 6 ! index", "3* member 0; stress 50", "ofMember 0 6 = 0", "ofMember 2 6 = 0", "house 12 = 0",
                "isSound = 1");
        S.run("2* member 1; contract 0 0 50; big 0 0 1; trade 0 4 0 5 50", "house 12 = 0", "ofMember 0 5 = 5",
                "ofMember 0 6 = 0", "ofMember 0 7 = 0");
        S.sentence("by how much that is above what it has in the FUND (MONEY 1 by RATE), 0 at least");
        S.run(LOTS, "trade 0 4 0 9 50", "ofMember 0 6 = 9", "ofMember 0 7 = 9", "give 0 0 2", "ofMember 0 7 = 7",
                "give 0 1 3", "ofMember 0 7 = 1", "rate 1", "ofMember 0 7 = 4", "give 0 0 3", "ofMember 0 7 = 1",
                "give 0 0 1", "ofMember 0 7 = 0", "give 0 0 1", "ofMember 0 7 = 0", "ofMember 1 7 = 9");
    }

    private static void plays() {
        S.sentence("To PLAY a SCENARIO n times: the PRICE of each CONTRACT moves by n times what it moves by in it");
        String traded = "2* member 0; contract 0 5 50; contract 2 0 50; scenario; shift 0 0 -3 -1; shift 0 2 2 5;"
                + "trade 0 4 0 1 50; trade 0 4 1 1 50";
        S.run(traded, "play 0 1 1 = 8", "play 0 1 2 = 2", "play 0 1 3 = 10", "play 0 1 0 = 2", "play 0 9 1 = 72",
                "play 0 9 2 = 18", "play 0 9 3 = 90", "play 0 9 0 = 2", "play 0 2 1 = 16", "play 0 0 1 ! value",
                "play 0 10 1 ! value", "play 0 min 1 ! value", "play 0 max 1 ! value", "play 0 1 5 ! value",
                "play 0 1 -1 ! value", "play 1 1 1 ! index", "play -1 1 1 ! index", "house 5 = 0", "borne 0 0 = 0",
                "ofSeries 0 3 = 50");
        S.sentence("that of each OPTION by what its WORTH does then (PRICES can come below 0 in this)");
        S.run("2* member 0; contract 0 0 0; option 0 0 0 0; option 0 1 5 0; scenario; shift 0 0 -20 0",
                "trade 0 4 1 1 0", "play 0 1 1 = 20", "play 0 9 1 = 180", "shift 0 0 20 0", "play 0 9 1 = 0",
                "trade 4 0 2 1 0", "play 0 1 1 = 15", "play 0 9 1 = 175", "play 0 9 3 = 175", "ofSeries 0 3 = 0");
        S.sentence("DUE grows as told: to what is DUE already");
        S.run("2* member 0; contract 0 0 50; scenario; shift 0 0 -3 0; trade 0 4 0 2 45", "play 0 1 1 = 4",
                "play 0 2 1 = 2", "trade 0 4 0 1 58", "play 0 1 1 = 7", "ofAccount 0 2 = 2");
        S.sentence("and one SETTLES (also on the DAY 99)");
        S.run("2* member 0; contract 0 0 50; scenario; shift 0 0 -3 0; trade 0 4 0 2 50; pay 0 0 9; 99* settle",
                "house 5 = 99", "play 0 1 4 = 1", "play 0 1 1 = 0", "play 0 2 1 = 3", "play 0 2 0 = 1", "house 5 = 99",
                "house 8 = 0", "play 0 2 4 = 0");
    }

    private static void playedEnds() {
        S.sentence("how many CALLS there would be then: at the PRICES that there are then");
        S.run("2* member 0; contract 0 0 50; option 0 1 60 1; scenario; shift 0 0 10 0; trade 0 4 1 1 1",
                "loss 4 0 = 0", "play 0 1 4 = 1", "pay 4 0 9", "play 0 1 4 = 1", "pay 4 0 1", "play 0 1 4 = 0",
                "play 0 2 1 = 0", "play 0 2 4 = 1", "pay 4 0 10", "play 0 2 4 = 0", "house 8 = 0");
        S.sentence("(PRICES can come below 0 in this): and are below 0 as DEPOSITS are reckoned then");
        S.run("2* member 0; contract 0 0 0; option 0 1 0 0; 2* scenario; shift 0 0 -20 0",
                "shift 1 0 10 0; trade 0 4 1 1 0", "loss 4 1 = 10", "play 0 1 4 = 0", "play 1 1 4 = 1",
                "play 1 1 0 = 1", "play 1 1 1 = 10", "pay 4 0 10", "play 1 1 4 = 1", "pay 4 0 10", "play 1 1 4 = 0");
        S.run("2* member 0; contract 0 0 0; option 0 0 0 0; 2* scenario; shift 0 0 -20 0",
                "shift 1 0 10 0; trade 0 4 1 1 0", "loss 0 1 = 0", "loss 4 0 = 20", "pay 4 0 40", "play 0 1 4 = 0",
                "ofSeries 0 3 = 0");
        S.run("2* member 0; contract 0 0 0; option 0 0 0 20; 2* scenario; shift 0 0 -20 0",
                "shift 1 0 10 0; pay 4 0 40; pay 0 0 30", "trade 0 4 1 1 60", "play 0 1 4 = 0", "undo",
                "trade 0 4 1 1 61", "play 0 1 4 = 1", "play 0 1 0 = 0");
        S.sentence("CALLS that there are fall due in it, and the ladder is gone down");
        S.run("3* member 0; contract 0 0 50; scenario; shift 0 0 -10 0; trade 0 4 0 1 50",
                "trade 8 5 0 1 50; call 0; call 8", "give 0 0 2; endow 0 5; give 1 0 4; pay 8 0 20", "play 0 1 0 = 1",
                "play 0 1 1 = 10", "play 0 1 3 = 0", "take 8 0 1", "play 0 1 0 = 2", "total 0 1 = 6", "total 0 2 = 5",
                "ofMember 0 1 = 0", "calls = 0@0 8@0", "play 0 2 3 = 10");
        S.sentence("GAINS in both MONEYS together (without RATE)");
        S.run("2* member 0; contract 0 0 50; contract 2 0 50; scenario; shift 0 0 -1 0; shift 0 2 -1 0; rate 9",
                "trade 0 4 0 3 50; trade 0 4 1 4 50", "play 0 1 3 = 7", "play 0 1 1 = 3", "play 0 1 2 = 4");
        S.sentence("a house without series or members can be played");
        S.run("scenario", "play 0 9 0 = 0", "play 0 1 4 = 0", "house 7 = 1", "house 16 = 1");
    }

    private static void words() {
        S.sentence("WORDS are the calls since MORNING, but settle(), correct(), undo() and knock()");
        S.run("house 7 = 0", "member 0 = 0", "house 7 = 1", "2* member 0", "house 7 = 3", "client 0", "house 7 = 4",
                "limit 0 60", "house 7 = 5", "contract 0 0 50", "house 7 = 6", "option 0 1 50 5", "house 7 = 7",
                "scenario", "house 7 = 8", "shift 0 0 -10 0", "house 7 = 9", "rate 3", "house 7 = 10", "counts 0 9",
                "house 7 = 11", "offset 4", "house 7 = 12", "big 0 9 9", "house 7 = 13", "stress 11", "house 7 = 14",
                "pay 0 0 20", "house 7 = 15", "take 0 0 1", "house 7 = 16", "give 0 0 1", "house 7 = 17", "endow 0 1",
                "house 7 = 18", "trade 0 4 0 4 50", "house 7 = 19", "call 0", "house 7 = 20", "correct 0 51",
                "house 7 = 20", "knock", "house 7 = 20", "undo", "house 7 = 20", "undo", "house 7 = 19", "settle = 0",
                "house 7 = 0");
        S.run(ONE_OUT, "house 7 = 0", "price 1 40", "house 7 = 1", "sell 4 0 8 50", "house 7 = 2", "tear 1",
                "house 7 = 3", "move 6 2", "house 7 = 4", "option 0 1 50 5; trade 0 8 2 1 5", "house 7 = 6",
                "use 0 2 1 0", "house 7 = 7", "deliver 0 0 1 0", "house 7 = 8", "isSound = 1", "undo", "house 7 = 7");
        S.sentence("that threw nothing and were not REFUSED");
        S.run("2* member 0; contract 0 0 50", "house 7 = 3", "house 16 = 3", "client 9 ! index", "limit 0 0 ! value",
                "contract 3 0 0 ! value", "price 0 5 ! state", "take 0 0 1 = -9", "call 0 = -9", "tear 0 = -9",
                "trade 0 4 0 50 50", "trade 0 4 0 1 50 = -9", "house 7 = 4", "house 16 = 4");
        S.sentence("what is asked is no WORD and no STEP");
        S.run("member 0; contract 0 0 50; scenario", "ofMember 0 0 = 0", "ofAccount 0 0 = 0", "position 0 0 = 0",
                "loss 0 0 = 0", "ofSeries 0 0 = 0", "moved 0 0 = 0", "calls =", "borne 0 0 = 0", "total 0 0 = 0",
                "play 0 1 0 = 0", "book 0 =", "open =", "isSound = 1", "house 7 = 3", "house 16 = 3");
    }

    private static final String ONE_OUT = "3* member 0; contract 0 1 60; contract 2 0 40; 2* client 1; pay 0 0 100;"
            + "pay 4 0 12; pay 8 1 50; pay 6 1 50; trade 4 0 0 3 70; trade 6 8 1 4 40; settle";

    private static void corrections() {
        S.sentence("To CORRECT a trade of this DAY: that trade with another price");
        S.run("2* member 0; contract 0 0 50", "correct 0 50 ! index", "trade 0 4 0 2 50", "trade 0 4 0 3 50",
                "correct 2 50 ! index", "correct -1 50 ! index", "correct 0 100 ! value", "correct 0 -1 ! value",
                "correct 2 100 ! index", "correct 0 99 = 50", "ofAccount 0 2 = -98", "ofTrade 0 4 = 99",
                "ofTrade 1 4 = 50", "correct 1 0 = 50", "ofAccount 0 2 = 52", "ofAccount 4 2 = -52",
                "correct 0 0 = 99", "ofAccount 0 2 = 250", "correct 0 0 = 0", "ofAccount 0 2 = 250",
                "position 0 0 = 5", "house 6 = 2", "house 7 = 5", "house 16 = 8", "isSound = 1");
        S.sentence("WORDS have that trade with its new price from then on");
        S.run("2* member 0; contract 0 0 50; trade 0 4 0 1 50; trade 0 4 0 1 50; trade 0 4 0 1 50", "correct 1 40 = 50",
                "correct 2 45 = 50", "ofAccount 0 2 = 15", "ofTrade 1 4 = 40", "correct 1 50 = 40", "ofAccount 0 2 = 5",
                "trade 0 4 0 1 30 = 3", "correct 3 29 = 30", "ofAccount 0 2 = 26", "undo", "undo", "ofAccount 0 2 = 5",
                "correct 3 5 ! index", "undo", "ofTrade 1 4 = 40", "isSound = 1", "undo", "ofTrade 2 4 = 50",
                "ofTrade 1 4 = 40", "undo", "ofTrade 1 4 = 50", "ofAccount 0 2 = 0");
        S.sentence("all WORDS are played again in their order");
        S.run("2* member 0; contract 0 0 50; trade 0 4 0 1 60; call 0; rate 3; trade 4 0 0 1 50", "correct 1 49 = 50",
                "calls = 0@0", "house 9 = 3", "ofAccount 0 2 = -11", "correct 0 59 = 60", "ofAccount 0 2 = -10", "undo",
                "undo", "ofAccount 0 2 = -10");
    }

    private static void correctionsRefused() {
        S.sentence("REFUSED if one of them would throw or be REFUSED then");
        S.run("2* member 0; contract 0 0 50; trade 0 4 0 1 51; call 0", "correct 0 50 = -9", "correct 0 49 = -9",
                "correct 0 0 = -9", "correct 0 52 = 51", "correct 0 51 = 52", "calls = 0@0", "ofAccount 0 2 = -1");
        S.run("2* member 0; contract 0 0 50; pay 0 0 10; trade 0 4 0 1 55; take 0 0 5", "correct 0 56 = -9",
                "correct 0 99 = -9", "correct 0 54 = 55", "correct 0 55 = 54", "ofAccount 0 0 = 5", "take 0 0 1 = -9");
        S.run("2* member 0; contract 0 0 50; pay 4 0 10; trade 0 4 0 1 45; take 4 0 5; pay 4 0 9", "correct 0 44 = -9",
                "correct 0 46 = 45", "take 4 0 9", "undo", "undo", "correct 0 44 = -9");
        S.sentence("a later trade does not help a WORD ahead of it");
        S.run("2* member 0; contract 0 0 50; pay 0 0 10; trade 0 4 0 1 50; take 0 0 10; pay 0 0 50",
                "correct 0 51 = -9", "trade 0 4 0 1 50", "correct 1 60 = 50", "ofAccount 0 2 = -10");
    }

    private static void correctionsOfDays() {
        S.sentence("(on the DAY 0 the house without members)");
        S.run("2* member 0; client 1; contract 0 0 50; trade 0 6 0 1 50; undo; trade 0 6 0 2 50", "correct 0 40 = 50",
                "house 0 = 2", "house 2 = 5", "ofAccount 6 2 = -20", "position 6 0 = -2", "house 7 = 5");
        S.sentence("from the state at MORNING");
        S.run(ONE_OUT, "correct 0 50 ! index", "price 0 61 = 60", "trade 0 8 0 2 60 = 0", "correct 0 64 = 60",
                "ofAccount 0 2 = -9", "borne 0 0 = 18", "ofAccount 0 0 = 112", "calls =", "price 0 62 ! state",
                "house 5 = 1", "settle = 0", "trade 0 8 0 1 60 = 0", "correct 0 61 = 60", "correct 1 61 ! index");
        S.sentence("a trade undone is none");
        S.run("2* member 0; contract 0 0 50; trade 0 4 0 1 50; trade 4 0 0 1 50", "undo", "correct 1 40 ! index",
                "correct 0 40 = 50", "trade 4 0 0 1 50 = 1", "correct 1 41 = 50", "ofAccount 0 2 = 1", "settle = 1",
                "correct 0 1 ! index", "undo", "correct 0 41 = 40", "ofAccount 0 2 = 0", "settle = 0");
    }

    private static void steps() {
        S.sentence("STEPS: the last 8 calls that threw nothing and were not REFUSED can be undone");
        S.run("undo ! state", "house 16 = 0", "member 0", "house 16 = 1", "undo = 0", "house 0 = 0", "undo ! state",
                "member 0", "7* pay 0 0 1", "house 16 = 8", "pay 0 0 1 = 8", "house 16 = 8", "undo = 7", "undo = 6",
                "undo = 5", "undo = 4", "undo = 3", "undo = 2", "undo = 1", "undo = 0", "ofAccount 0 0 = 0",
                "house 0 = 1", "undo ! state", "house 16 = 0", "pay 0 0 5 = 5", "house 16 = 1", "house 7 = 2",
                "undo = 0", "undo ! state");
        S.run("member 0; 8* pay 0 0 1", "8* undo", "ofAccount 0 0 = 0", "house 0 = 1", "undo ! state");
        S.run("member 0; 20* pay 0 0 1", "3* undo", "2* pay 0 0 10", "house 16 = 7", "ofAccount 0 0 = 37", "undo = 6",
                "undo = 5", "ofAccount 0 0 = 17", "5* undo", "ofAccount 0 0 = 12", "undo ! state");
        S.sentence("a call that throws or is REFUSED does not push a STEP out");
        S.run("2* member 0; contract 0 0 50; 8* pay 0 0 1", "take 0 0 9 = -9", "pay 0 0 0 ! value", "pay 9 0 1 ! index",
                "price 0 1 ! state", "trade 0 0 0 1 1 ! value", "correct 0 1 ! index", "9* tear 0 = -9", "house 16 = 8",
                "7* undo", "undo = 0", "ofAccount 0 0 = 0", "undo ! state");
    }

    private static void stepsOverDays() {
        S.sentence("(also settle() and correct())");
        S.run("2* member 0; contract 0 0 50; trade 0 4 0 1 50; pay 0 0 9", "correct 0 51 = 50", "settle = 0",
                "house 16 = 7", "ofAccount 0 0 = 8", "undo = 6", "ofAccount 0 0 = 9", "ofAccount 0 2 = -1",
                "house 5 = 0", "house 7 = 5", "house 6 = 1", "undo = 5", "ofAccount 0 2 = 0", "ofTrade 0 4 = 50",
                "undo = 4", "ofAccount 0 0 = 0");
        S.run("2* member 0; contract 0 0 50; trade 0 4 0 1 49; pay 4 0 9; 8* settle", "house 16 = 8", "7* undo",
                "house 5 = 1", "ofTrade 0 4 ! index", "undo = 0", "house 5 = 0", "ofTrade 0 4 = 49",
                "ofAccount 4 2 = -1", "house 7 = 5", "correct 0 48 = 49", "isSound = 1", "undo = 0", "undo ! state",
                "house 7 = 5", "ofAccount 4 2 = -1");
        S.run("2* member 0; contract 0 0 50; trade 0 4 0 1 49; settle", "ofMember 1 1 = 1", "tear 0 = 1",
                "price 0 40", "undo", "undo", "position 4 0 = -1", "undo", "ofMember 1 1 = 0", "house 1 = 2",
                "ofSeries 0 6 = 1", "borne 0 0 = 0");
        S.sentence("all is as it was then");
        S.run("3* member 0; client 0; contract 0 0 50; scenario; shift 0 0 -10 0; pay 4 0 9",
                "trade 2 4 0 1 50; settle; settle", "open = 2", "price 0 44 = 50", "move 2 1 = 6", "settle = 0",
                "calls = 6@3", "undo", "undo", "open = 2", "calls =", "ofAccount 2 2 = -6", "undo",
                "ofAccount 2 2 = 0", "undo", "calls = 2@1", "undo", "calls =", "house 16 = 3", "isSound = 1");
    }

    private static void knocks() {
        S.sentence("but how often one knocked");
        S.run("house 17 = 0", "knock = 1", "house 17 = 1", "house 16 = 0", "house 7 = 0", "undo ! state", "member 0",
                "knock = 2", "undo = 0", "house 17 = 2", "knock = 3", "settle", "knock = 4", "undo", "house 17 = 4");
    }
}
