/** The edges in part 4 of the document's description: who is out, options used, and goods delivered. */
public final class EdgeOutTest {
    private static final Script S = new Script("EdgeOutTest");

    /**
     * Member 1 is out: 4 has 3 lots of the series 0 (good 0, price 60), 0 has -3; 6 has 4 of 1 (good 2, price 40),
     * 8 has -4; 7 has nothing.
     */
    private static final String ONE_OUT = "3* member 0; contract 0 1 60; contract 2 0 40; 2* client 1; pay 0 0 100;"
            + "pay 4 0 12; pay 8 1 50; pay 6 1 50; trade 4 0 0 3 70; trade 6 8 1 4 40; settle";

    private EdgeOutTest() { }

    public static void main(String[] args) {
        positionsStay();
        sales();
        salesToLimits();
        tearing();
        tearingSpread();
        moves();
        movesToFree();
        uses();
        usesOfWorth();
        starts();
        deliveries();
        deliveryStarts();
        S.end();
    }

    private static void positionsStay() {
        S.sentence("The POSITIONS of a MEMBER that is OUT stay (and have DUE)");
        S.run(ONE_OUT, "position 4 0 = 3", "position 6 1 = 4", "open = 4 6", "price 0 62 = 60", "ofAccount 4 2 = 6",
                "ofAccount 0 2 = -6", "price 1 39 = 40", "ofAccount 6 3 = -4", "settle = 0", "ofAccount 4 0 = 6",
                "ofAccount 6 1 = 46", "position 4 0 = 3", "open = 4 6", "ofMember 1 1 = 1", "settle = 0", "open = 4 6");
        S.run(ONE_OUT, "price 0 50", "settle = 0", "borne 0 0 = 30", "borne 0 4 = 30", "ofAccount 0 0 = 112");
    }

    private static void sales() {
        S.sentence("if it is above 0, as in a trade in which that ACCOUNT buys so many lots of the one that is OUT");
        S.run(ONE_OUT, "sell 4 0 8 99 = 3", "position 4 0 = 0", "position 8 0 = 3", "ofAccount 8 2 = -117",
                "ofAccount 4 2 = 117", "sell 4 0 8 99 ! state", "house 6 = 0", "house 7 = 1", "open = 6");
        S.run(ONE_OUT, "sell 4 0 8 0 = 3", "ofAccount 8 2 = 180", "ofAccount 4 2 = -180", "sell 6 1 8 40 = 4",
                "position 8 1 = 0", "ofAccount 8 3 = 0", "open =", "sell 4 0 8 100 ! value", "sell 4 0 8 -1 ! value");
        S.sentence("if it is below 0, as if it sold so many lots to it");
        String below = "3* member 0; contract 2 0 50; trade 5 1 0 2 40; settle";
        S.run(below, "ofMember 0 1 = 1", "sell 1 0 9 99 = 2", "position 1 0 = 0", "position 9 0 = -2",
                "ofAccount 9 3 = 98", "ofAccount 1 3 = -98", "ofAccount 9 2 = 0", "sell 1 0 9 99 ! state");
        S.run(below, "sell 1 0 5 0 = 2", "position 5 0 = 0", "ofAccount 5 3 = -100", "ofAccount 1 3 = 100");
        S.sentence("the MEMBER of the ACCOUNT is not OUT, the taker is not FREE, or the POSITION is 0");
        S.run(ONE_OUT, "sell 0 0 8 50 ! state", "sell 4 0 4 50 ! state", "sell 4 0 5 50 ! state",
                "sell 4 1 8 50 ! state", "sell 7 0 8 50 ! state", "sell 8 1 6 50 ! state", "sell 4 0 1 50 = 3");
    }

    private static void salesToLimits() {
        S.sentence("a sale behind which a POSITION would be above LIMIT is REFUSED (of the MEMBER of the taker alone)");
        S.run(ONE_OUT, "limit 2 2", "sell 4 0 8 50 = -9", "limit 2 3", "sell 4 0 8 50 = 3", "position 8 0 = 3");
        S.run(ONE_OUT, "limit 1 1", "limit 0 1", "sell 4 0 0 50 = 3", "position 0 0 = 0", "sell 6 1 0 50 = -9",
                "limit 0 4", "sell 6 1 0 50 = 4");
        S.run("3* member 0; contract 0 0 50; trade 4 0 0 5 45; trade 4 8 0 3 50; settle", "ofMember 0 1 = 1",
                "limit 2 7", "sell 0 0 8 50 = -9", "limit 2 8", "sell 0 0 8 50 = 5", "position 8 0 = -8");
        S.run("3* member 0; contract 0 0 50; trade 4 0 0 5 45; trade 8 4 0 3 50; settle", "ofMember 0 1 = 1",
                "limit 2 1", "sell 0 0 8 50 = -9", "limit 2 2", "sell 0 0 8 50 = 5", "position 8 0 = -2");
    }

    private static void tearing() {
        S.sentence("TEAR UP: the POSITIONS of all ACCOUNTS of MEMBERS that are OUT in it become 0");
        S.run(ONE_OUT, "tear 0 = 3", "position 4 0 = 0", "position 0 0 = 0", "position 6 1 = 4", "tear 0 = -9",
                "open = 6", "ofAccount 4 2 = 0", "ofAccount 0 2 = 0", "tear 1 = 4", "tear 1 = -9", "open =",
                "tear 2 ! index", "tear -1 ! index", "house 7 = 2");
        S.sentence("-9 if no ACCOUNT that is OUT has a POSITION in it");
        S.run("2* member 0; contract 0 0 50; trade 0 4 0 1 50", "tear 0 = -9", "position 0 0 = 1");
        S.run("3* member 0; contract 0 0 50; contract 0 1 50; trade 0 4 0 1 51; trade 8 4 1 1 50; settle",
                "tear 1 = -9", "tear 0 = 1", "position 8 1 = 1", "position 4 0 = 0", "position 4 1 = -1",
                "isSound = 1");
        S.run("3* member 0; contract 0 0 50; trade 4 0 0 1 49; trade 8 4 0 1 50; settle", "tear 0 = 1",
                "position 0 0 = 0", "position 4 0 = 0", "position 8 0 = 0", "isSound = 1");
        S.sentence("their sum (if it is not 0)");
        S.run("3* member 0; contract 0 0 50; trade 0 1 0 4 51; trade 4 8 0 2 50; settle", "open = 0 1", "tear 0 = 0",
                "position 0 0 = 0", "position 1 0 = 0", "position 4 0 = 2", "position 8 0 = -2", "open =",
                "tear 0 = -9");
        S.run("4* member 0; contract 0 0 50; trade 0 4 0 2 51; trade 4 8 0 4 51; trade 9 0 0 1 50", "settle = 2",
                "position 0 0 = 1", "position 4 0 = 2", "position 8 0 = -4", "position 9 0 = 1", "tear 0 = 3",
                "position 8 0 = -1", "position 9 0 = 1");
    }

    private static void tearingSpread() {
        S.sentence("taken off those of ACCOUNTS of GOOD MEMBERS with the other sign, SPREAD by these");
        // 4 lots by 1, 2 and 3: 0, 1 and 2, and 1 more for the first.
        String others = "4* member 0; client 1; contract 0 0 50; trade 0 5 0 1 51; trade 0 6 0 2 51; trade 0 12 0 1 51;"
                + "trade 8 12 0 2 50";
        S.run(others, "settle = 1", "tear 0 = 4", "position 5 0 = 0", "position 6 0 = -1", "position 12 0 = -1",
                "position 8 0 = 2", "isSound = 1");
        S.run("4* member 0; contract 0 0 50; trade 5 0 0 1 49; trade 6 0 0 1 49 ! index", "trade 9 0 0 1 49",
                "trade 12 0 0 1 49", "trade 12 13 0 2 50", "settle = 1", "position 0 0 = -3", "position 12 0 = 3",
                "tear 0 = 3", "position 5 0 = 0", "position 9 0 = 0", "position 12 0 = 2", "position 13 0 = -2");
        S.run("4* member 0; contract 0 0 50; trade 4 0 0 1 51; trade 4 8 0 1 51; trade 4 12 0 1 51; trade 4 9 0 2 50",
                "trade 12 9 0 2 50; settle", "ofMember 1 1 = 1", "position 4 0 = 5", "position 0 0 = -1",
                "position 8 0 = -1", "position 12 0 = 1", "position 9 0 = -4", "tear 0 = 5", "position 0 0 = 0",
                "position 8 0 = 0", "position 9 0 = -1", "position 12 0 = 1");
        S.sentence("(These are as many at least, as all POSITIONS in a SERIES sum to 0.)");
        S.run("2* member 0; contract 0 0 50; limit 0 200; limit 1 200; 4* trade 0 4 0 50 50; trade 1 5 0 50 51; settle",
                "tear 0 = 250", "position 4 0 = 0", "position 5 0 = 0", "ofSeries 0 7 = 0");
    }

    private static void moves() {
        S.sentence("with all that it has, to the first free one of SLOTS 2 and 3 (its old number is none)");
        S.run(ONE_OUT, "price 1 45", "pay 6 0 3", "move 6 2 = 10", "position 10 1 = 4", "ofAccount 10 0 = 3",
                "ofAccount 10 1 = 50", "ofAccount 10 3 = 20", "ofAccount 6 0 ! index", "position 6 1 ! index",
                "book 6 ! index", "pay 6 0 5 ! index", "loss 6 0 ! index", "move 6 0 ! index",
                "sell 6 1 8 50 ! index", "ofMember 1 8 = 3", "ofMember 2 8 = 3", "house 2 = 8", "open = 4",
                "total 1 5 = 20", "total 1 6 = 20", "ofSeries 1 7 = 4", "total 1 0 = 100", "total 0 0 = 115",
                "isSound = 1", "move 7 2 = 11", "ofAccount 11 0 = 0", "client 2 = -9", "house 2 = 8",
                "trade 10 8 1 1 45 = 0", "trade 11 8 1 1 45 = 1", "settle = 0", "ofAccount 10 1 = 70");
        S.sentence("(but its CALL, which is gone)");
        S.run("3* member 0; client 0; client 0; contract 0 0 50; scenario; shift 0 0 -10 0; pay 2 0 3; pay 0 0 10",
                "trade 2 4 0 1 50; trade 0 4 0 1 50; trade 3 8 0 1 60", "settle = 0", "calls = 0@1 2@1 3@1",
                "settle = 1", "calls =", "move 2 1 = 6", "calls =", "ofAccount 6 8 = -1", "settle = 0", "calls = 6@3",
                "move 3 1 = 7", "calls = 6@3", "settle = 1", "calls =");
        S.sentence("of a GOOD MEMBER; not one of SLOT 2 or 3 of a MEMBER that is OUT, or the other is OUT or a LINK");
        S.run(ONE_OUT, "member 1", "client 0", "move 4 0 ! state", "move 5 0 ! state", "move 2 2 ! state",
                "move 0 2 ! state", "move 6 1 ! state", "move 6 3 ! state", "move 6 4 ! index", "move 6 -1 ! index",
                "move 3 2 ! index", "move 6 0 = 3", "move 7 2 = 10");
    }

    private static void movesToFree() {
        S.sentence("-9 if that MEMBER has both SLOTS 2 and 3");
        S.run(ONE_OUT, "2* client 0", "move 6 0 = -9", "move 7 0 = -9", "position 6 1 = 4", "undo", "move 7 0 = 3",
                "move 6 0 = -9", "move 6 2 = 10");
        S.sentence("all five can be full, and one that moved can move again with its new MEMBER");
        S.run("3* member 0; 2* client 0; contract 0 0 50; trade 0 4 0 1 51; settle", "move 3 1 = 6", "move 2 1 = 7",
                "pay 6 0 3", "pay 7 0 4", "trade 4 8 0 1 51", "settle = 1", "ofMember 1 1 = 1", "move 7 2 = 10",
                "move 6 2 = 11", "ofAccount 10 0 = 4", "ofAccount 11 0 = 3", "ofAccount 6 0 ! index", "house 2 = 8");
        S.sentence("a trade has the numbers that they had then");
        S.run("3* member 0; client 0; contract 0 0 50; scenario; shift 0 0 -10 0; trade 2 4 0 1 50; settle; settle",
                "ofMember 0 1 = 1", "trade 4 8 0 1 50", "move 2 1 = 6", "trade 6 8 0 1 47", "ofTrade 0 0 = 4",
                "ofTrade 1 0 = 6", "correct 1 48 = 47", "ofAccount 6 2 = 2", "position 6 0 = 2", "isSound = 1");
    }

    /** 0 has 7 calls (strike 55, price 3) on the contract 0 (price 60), sold by 4, 5 and 9: 2, 4 and 1. */
    private static final String OPTIONS = "3* member 0; contract 0 0 60; option 0 1 55 3; trade 0 4 1 2 3;"
            + "trade 0 5 1 4 3; trade 0 9 1 1 3";

    private static void uses() {
        S.sentence("-9 if the POSITION is less than lots");
        S.run(OPTIONS, "use 0 1 8 0 = -9", "use 0 1 50 0 = -9", "use 4 1 1 0 = -9", "use 1 1 1 0 = -9",
                "use 0 1 7 0 = 3", "use 0 1 1 0 = -9", "position 0 0 = 7", "position 4 0 = -2", "position 5 0 = -4",
                "position 9 0 = -1", "book 9 = 0:-1", "book 0 = 0:7", "position 5 1 = 0");
        S.run(OPTIONS, "use 0 1 6 0 = 2", "position 4 1 = 0", "position 5 1 = 0", "position 9 1 = -1",
                "use 0 1 2 0 = -9", "use 0 1 1 0 = 1", "position 9 0 = -1");
        S.sentence("that is no OPTION, lots is not 1 to 50, or start not 0 to 19");
        S.run(OPTIONS, "use 0 0 1 0 ! value", "use 0 1 0 0 ! value", "use 0 1 51 0 ! value", "use 0 1 1 20 ! value",
                "use 0 1 1 -1 ! value", "use 0 2 1 0 ! index", "use 2 1 1 0 ! index", "use 0 1 1 19 = 1");
        S.run("2* member 0; contract 0 0 60; option 0 1 55 3; trade 0 4 1 50 3", "use 0 1 50 0 = 1",
                "position 0 0 = 50", "position 4 0 = -50");
        S.sentence("an OPTION may be USED above a LIMIT");
        S.run(OPTIONS, "limit 0 1; limit 1 1", "use 0 1 7 0 = 3", "position 0 0 = 7");
        S.sentence("ASSIGNED are also those who are OUT");
        S.run("3* member 0; contract 0 0 60; option 0 1 55 3; trade 0 4 1 2 2; pay 8 0 5; trade 8 5 1 1 3; settle",
                "ofMember 1 1 = 1", "use 8 1 1 0 = 1", "position 4 1 = -1", "position 4 0 = -1", "ofAccount 4 2 = -2",
                "open = 4 5");
    }

    private static void usesOfWorth() {
        S.sentence("W being PRICE of the CONTRACT less STRIKE (also below 0), less PRICE of the OPTION");
        S.run("2* member 0; contract 0 0 0; option 0 1 99 99; trade 0 4 1 50 99", "use 0 1 50 0 = 1",
                "ofAccount 0 2 = -9900", "ofAccount 4 2 = 9900", "position 0 0 = 50");
        S.run("2* member 0; contract 0 0 99; option 0 1 0 0; trade 0 4 1 50 0", "use 0 1 50 0 = 1",
                "ofAccount 0 2 = 4950", "ofAccount 4 2 = -4950");
        S.run("2* member 0; contract 0 0 50; option 0 1 45 5; trade 0 4 1 3 5", "use 0 1 3 0 = 1", "ofAccount 0 2 = 0",
                "position 0 0 = 3", "position 4 0 = -3");
        S.sentence("with a PUT: STRIKE less that PRICE; POSITION of the user in the CONTRACT less");
        S.run("2* member 0; contract 2 0 99; option 0 0 0 99; trade 0 4 1 50 99", "use 0 1 50 0 = 1",
                "ofAccount 0 3 = -9900", "ofAccount 4 3 = 9900", "position 0 0 = -50", "position 4 0 = 50",
                "ofAccount 0 2 = 0");
        S.run("2* member 0; contract 2 0 0; option 0 0 99 0; trade 0 4 1 2 0", "use 0 1 1 0 = 1", "ofAccount 0 3 = 99",
                "ofAccount 4 3 = -99", "position 0 0 = -1", "position 0 1 = 1");
        S.sentence("an OPTION is on a CONTRACT: its POSITIONS alone become others");
        S.run("2* member 0; contract 0 0 50; contract 0 1 50; contract 2 3 60; option 1 1 50 0",
                "option 2 1 58 1; option 2 0 61 0", "trade 0 4 4 3 1; trade 4 0 5 2 0; trade 0 4 3 1 0",
                "use 0 4 2 0 = 1", "book 0 = 2:2 3:1 4:1 5:-2", "book 4 = 2:-2 3:-1 4:-1 5:2", "ofAccount 0 3 = 2",
                "use 4 5 2 0 = 1", "book 0 = 2:4 3:1 4:1", "book 4 = 2:-4 3:-1 4:-1", "ofAccount 4 3 = 0",
                "ofAccount 0 2 = 0");
        S.sentence("DUE of each ASSIGNED falls by its lots times that");
        S.run(OPTIONS, "use 0 1 7 0 = 3", "ofAccount 0 2 = 14", "ofAccount 4 2 = -4", "ofAccount 5 2 = -8",
                "ofAccount 9 2 = -2", "isSound = 1");
    }

    /** Those with a position below 0 have one lot each: 1, 5, 8 and 19. */
    private static final String FOUR = "5* member 0; 2* client 4; contract 0 0 50; option 0 1 50 0; trade 0 1 1 1 0;"
            + "trade 0 5 1 1 0; trade 0 8 1 1 0; trade 0 19 1 1 0";

    private static void starts() {
        S.sentence("the row of ACCOUNTS begins with the first one from the number START on");
        S.run(FOUR, "use 0 1 1 5 = 1", "book 5 = 0:-1", "undo", "use 0 1 1 6 = 1", "book 8 = 0:-1", "undo",
                "use 0 1 1 1 = 1", "book 1 = 0:-1", "undo", "use 0 1 1 0 = 1", "book 1 = 0:-1", "undo",
                "use 0 1 1 9 = 1", "book 19 = 0:-1", "undo", "use 0 1 1 19 = 1", "book 19 = 0:-1", "undo",
                "use 0 1 1 2 = 1", "book 5 = 0:-1");
        S.sentence("(or else with the first of all)");
        S.run("5* member 0; contract 0 0 50; option 0 1 50 0; trade 0 1 1 1 0; trade 0 16 1 1 0", "use 0 1 1 18 = 1",
                "book 1 = 0:-1", "undo", "use 0 1 1 17 = 1", "book 1 = 0:-1", "undo", "use 0 1 1 16 = 1",
                "book 16 = 0:-1", "undo", "use 0 1 1 19 = 1", "book 1 = 0:-1");
        S.sentence("and goes round behind the last one");
        S.run(FOUR, "use 0 1 3 8 = 3", "book 8 = 0:-1", "book 19 = 0:-1", "book 1 = 0:-1", "book 5 = 1:-1", "undo",
                "use 0 1 2 19 = 2", "book 19 = 0:-1", "book 1 = 0:-1", "book 8 = 1:-1", "undo", "use 0 1 4 19 = 4",
                "book 5 = 0:-1");
        S.sentence("the lots are SPREAD by these: rounded down, and one each of what is left from START on");
        // 6 of 7 by 2, 4 and 1: 1, 3 and 0, and 1 more for two of them, from START on.
        S.run(OPTIONS, "use 0 1 6 5 = 3", "book 4 = 0:-1 1:-1", "book 5 = 0:-4", "book 9 = 0:-1", "undo",
                "use 0 1 6 9 = 3", "book 4 = 0:-2", "book 5 = 0:-3 1:-1", "book 9 = 0:-1", "undo", "use 0 1 6 10 = 2",
                "book 9 = 1:-1");
        S.sentence("how many ACCOUNTS get lots as ASSIGNED");
        S.run(OPTIONS, "use 0 1 1 0 = 1", "use 0 1 1 9 = 1", "book 9 = 0:-1", "use 0 1 4 0 = 2");
    }

    /** 0 has -7 of the contract 0 (good 1, price 30); 4, 5 and 9 have 2, 4 and 1. */
    private static final String SOLD = "3* member 0; contract 1 0 30; option 0 1 30 1; trade 4 0 0 2 30;"
            + "trade 5 0 0 4 30; trade 9 0 0 1 30";

    private static void deliveries() {
        S.sentence("-9 if the POSITION is above minus lots");
        S.run(SOLD, "deliver 0 0 8 0 = -9", "deliver 4 0 1 0 = -9", "deliver 1 0 1 0 = -9", "deliver 0 0 7 0 = 3",
                "deliver 0 0 1 0 = -9", "position 0 0 = 0", "position 4 0 = 0", "position 5 0 = 0",
                "position 9 0 = 0", "house 14 = 7", "ofAccount 0 2 = 210", "ofAccount 4 2 = -60",
                "ofAccount 5 2 = -120", "ofAccount 9 2 = -30");
        S.sentence("that is no CONTRACT, lots is not 1 to 50, or start not 0 to 19");
        S.run(SOLD, "deliver 0 1 1 0 ! value", "deliver 0 0 0 0 ! value", "deliver 0 0 51 0 ! value",
                "deliver 0 0 1 20 ! value", "deliver 0 0 1 -1 ! value", "deliver 0 2 1 0 ! index",
                "deliver 2 0 1 0 ! index", "deliver 0 0 1 19 = 1", "house 14 = 1", "house 13 = 0", "house 15 = 0");
        S.sentence("DUE of the one who delivers grows by lots * PRICE");
        S.run("2* member 0; contract 0 0 0; contract 2 0 99; trade 4 0 0 50 0; trade 4 0 1 50 99",
                "deliver 0 0 50 0 = 1", "ofAccount 0 2 = 0", "deliver 0 1 50 19 = 1", "ofAccount 0 3 = 4950",
                "ofAccount 4 3 = -4950", "house 13 = 50", "house 14 = 0", "house 15 = 50", "undo", "house 15 = 0",
                "house 13 = 50");
        S.sentence("ASSIGNED are also those who are OUT; DELIVERED goes on over days");
        S.run(ONE_OUT, "deliver 0 0 3 0 = 1", "ofAccount 4 2 = -180", "position 4 0 = 0", "deliver 8 1 1 0 = 1",
                "house 13 = 3", "settle = 0", "house 13 = 3", "house 15 = 1", "deliver 8 1 3 0 = 1", "house 15 = 4",
                "open =");
    }

    private static void deliveryStarts() {
        S.sentence("ASSIGNED are the ACCOUNTS with a POSITION above 0 in it, as above");
        S.run(SOLD, "deliver 0 0 1 5 = 1", "position 5 0 = 3", "undo", "deliver 0 0 1 6 = 1", "position 9 0 = 0",
                "undo", "deliver 0 0 1 10 = 1", "position 4 0 = 1", "undo", "deliver 0 0 6 9 = 3", "position 4 0 = 0",
                "position 5 0 = 1", "position 9 0 = 0", "undo", "deliver 0 0 6 4 = 2", "position 5 0 = 0",
                "position 9 0 = 1");
    }
}
