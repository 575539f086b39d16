/** The edges in part 3 of the document's description: the end of a day, and who bears what is missing. */
public final class EdgeSettleTest {
    private static final Script S = new Script("EdgeSettleTest");

    private EdgeSettleTest() { }

    public static void main(String[] args) {
        days();
        callsFallDue();
        payments();
        clients();
        outOnce();
        ownFund();
        housesPart();
        fundOfOthers();
        gains();
        newCalls();
        morning();
        borne();
        S.end();
    }

    private static void days() {
        S.sentence("DAY is 0 at first, 99 at most");
        S.run("house 5 = 0", "settle = 0", "house 5 = 1", "97* settle", "house 5 = 98", "settle = 0", "house 5 = 99",
                "settle ! state", "settle ! state", "house 5 = 99", "undo", "house 5 = 98", "settle = 0",
                "settle ! state");
        S.sentence("on the DAY 99 all else can be done");
        S.run("2* member 0; contract 0 0 50; scenario; shift 0 0 -10 0; pay 0 0 10; trade 0 4 0 1 50; 98* settle",
                "house 5 = 98", "take 0 0 1 = -9", "price 0 49 = 50", "settle = 0", "ofAccount 0 8 = 99",
                "calls = 0@99", "price 0 48 = 49", "trade 0 4 0 1 48 = 0", "correct 0 47 = 48", "call 0 = 11",
                "calls = 0@99", "play 0 1 0 = 1", "play 0 9 1 = 171", "play 0 9 4 = 0", "pay 0 0 12",
                "play 0 1 0 = 1", "settle ! state", "calls = 0@99");
        S.sentence("the empty house SETTLES");
        S.run("settle = 0", "house 5 = 1", "house 16 = 1", "house 7 = 0", "calls =", "open =", "isSound = 1",
                "undo = 0", "house 5 = 0");
    }

    private static void callsFallDue() {
        S.sentence("CALLS that fall due on this DAY: it goes; if the ACCOUNT LACKS something, the MEMBER is OUT");
        String[] called = {"2* member 0; contract 0 0 50; scenario; shift 0 0 -10 0; trade 0 4 0 1 50; call 0"};
        S.run(called[0], "pay 0 0 9", "settle = 1", "ofMember 0 1 = 1", "ofMember 1 1 = 0", "calls =",
                "ofAccount 0 8 = -1");
        S.run(called[0], "pay 0 0 10", "settle = 0", "ofMember 0 1 = 0", "calls =", "ofAccount 0 8 = -1");
        S.sentence("an ACCOUNT without a CALL may LACK something for a DAY");
        S.run("2* member 0; contract 0 0 50; scenario; shift 0 0 -10 0; trade 0 4 0 1 50", "settle = 0",
                "ofMember 0 1 = 0", "calls = 0@1", "settle = 1", "ofMember 0 1 = 1", "settle = 0");
        S.sentence("LACKS something: DUE above 0 does not count yet, DUE below 0 does");
        S.run("2* member 0; contract 0 0 50; scenario; shift 0 0 -10 0; pay 4 0 99; trade 0 4 0 1 40; call 0",
                "settle = 1", "ofMember 0 1 = 1", "ofAccount 0 0 = 10");
        S.run("2* member 0; contract 0 0 50; scenario; shift 0 0 -10 0; pay 0 0 10; trade 0 4 0 1 51", "call 0 = 1",
                "settle = 1", "ofMember 0 1 = 1", "ofAccount 0 0 = 9");
        S.sentence("a MEMBER is OUT once, and the CALLS of one that is OUT go");
        S.run("2* member 0; 2* client 0; contract 0 0 50; scenario; shift 0 0 -10 0",
                "trade 0 5 0 1 50; trade 2 5 0 1 50; trade 3 5 0 1 50", "call 3; call 0; call 2", "calls = 0@0 2@0 3@0",
                "settle = 1", "calls =", "house 8 = 0", "house 1 = 1");
        S.run("2* member 0; client 0; contract 0 0 50; scenario; shift 0 0 -10 0; trade 0 5 0 1 50; trade 2 5 0 1 50",
                "settle = 0", "calls = 0@1 2@1", "pay 0 0 10", "pay 2 0 9", "settle = 1", "calls =",
                "ofMember 0 1 = 1");
    }

    private static void payments() {
        S.sentence("each ACCOUNT with DUE below 0 pays of its BALANCE as much as it can");
        S.run("2* member 0; contract 0 0 50; pay 0 0 5; trade 0 4 0 1 55", "settle = 0", "ofAccount 0 0 = 0",
                "ofAccount 4 0 = 5", "borne 0 0 = 0", "ofMember 0 1 = 0");
        S.run("2* member 0; contract 0 0 50; pay 0 0 4; trade 0 4 0 1 55", "settle = 1", "ofAccount 0 0 = 0",
                "ofAccount 4 0 = 4", "borne 0 0 = 1", "borne 0 4 = 1");
        S.run("2* member 0; contract 0 0 50; pay 0 0 6; trade 0 4 0 1 55", "settle = 0", "ofAccount 0 0 = 1",
                "ofAccount 4 0 = 5");
        S.sentence("MONEY by MONEY: what there is of the other MONEY does not help");
        S.run("2* member 0; contract 0 0 50; pay 0 1 99; give 0 1 99; endow 1 99; give 1 1 99; trade 0 4 0 1 51",
                "settle = 1", "ofAccount 0 1 = 99", "borne 0 0 = 1", "borne 0 4 = 1", "total 1 1 = 198",
                "total 1 2 = 99", "ofAccount 4 0 = 0");
        S.run("2* member 0; contract 2 0 50; pay 0 0 99; give 0 0 99; endow 0 99; give 1 0 99; trade 0 4 0 1 51",
                "settle = 1", "ofAccount 0 0 = 99", "borne 1 0 = 1", "borne 1 4 = 1", "total 0 1 = 198",
                "total 0 2 = 99", "ofAccount 4 1 = 0");
        S.sentence("Then each DUE above 0 is added to BALANCE; all DUE are 0");
        S.run("2* member 0; contract 0 0 50; contract 2 0 50; pay 0 0 9; pay 4 1 9; trade 0 4 0 1 54; trade 4 0 1 1 53",
                "settle = 0", "ofAccount 0 0 = 5", "ofAccount 4 0 = 4", "ofAccount 0 1 = 3", "ofAccount 4 1 = 6",
                "ofAccount 0 2 = 0", "ofAccount 0 3 = 0", "ofAccount 4 2 = 0", "ofAccount 4 3 = 0", "settle = 0",
                "ofAccount 0 0 = 5", "total 0 5 = 0", "total 1 6 = 0");
    }

    private static void clients() {
        S.sentence("what its TOGETHER, SLOTS 2 and 3 still have below 0 is paid of BALANCE of its OWN");
        String clients = "2* member 0; 2* client 0; contract 0 0 50; trade 1 4 0 1 54; trade 2 4 0 1 54;"
                + "trade 3 4 0 1 54";
        S.run(clients, "pay 0 0 12", "settle = 0", "ofAccount 0 0 = 0", "ofAccount 4 0 = 12", "ofMember 0 1 = 0",
                "borne 0 0 = 0");
        S.run(clients, "pay 0 0 11", "settle = 1", "ofAccount 0 0 = 0", "ofAccount 4 0 = 11", "borne 0 0 = 1");
        S.run(clients, "pay 0 0 13", "settle = 0", "ofAccount 0 0 = 1");
        S.run(clients, "settle = 1", "borne 0 0 = 12", "borne 0 4 = 12", "ofAccount 4 0 = 0");
        S.run("5* member 0; 2* client 4; contract 2 0 50; trade 17 0 0 1 54; trade 18 0 0 1 54; trade 19 0 0 1 54",
                "pay 16 1 12", "pay 12 1 99", "settle = 0", "ofAccount 16 1 = 0", "ofAccount 0 1 = 12",
                "ofAccount 12 1 = 99", "borne 1 0 = 0");
        S.run("5* member 0; 2* client 4; contract 2 0 50; trade 17 0 0 1 54; trade 18 0 0 1 54; trade 19 0 0 1 54",
                "pay 16 1 11", "settle = 1", "ofMember 4 1 = 1", "ofAccount 16 1 = 0", "ofAccount 0 1 = 11",
                "borne 1 0 = 1");
        S.sentence("each ACCOUNT pays of its own BALANCE first");
        S.run(clients, "pay 0 0 9; pay 1 0 3; pay 2 0 5", "settle = 0", "ofAccount 0 0 = 4", "ofAccount 1 0 = 0",
                "ofAccount 2 0 = 1");
        S.run("2* member 0; contract 0 0 50; pay 0 0 10; trade 0 4 0 1 53; trade 1 4 0 1 57", "settle = 0",
                "ofAccount 0 0 = 0", "borne 0 0 = 0");
        S.run("2* member 0; contract 0 0 50; pay 0 0 10; trade 0 4 0 1 53; trade 1 4 0 1 58", "settle = 1",
                "ofAccount 0 0 = 0", "borne 0 0 = 1");
        S.sentence("OWN alone pays for others: no client pays for another one, or for its MEMBER");
        S.run("2* member 0; 2* client 0; contract 0 0 50; pay 1 0 99; pay 2 0 99; trade 3 4 0 1 51", "settle = 1",
                "borne 0 0 = 1", "ofAccount 1 0 = 99", "ofAccount 2 0 = 99");
        S.run("2* member 0; client 0; contract 0 0 50; pay 1 0 99; pay 2 0 99; trade 0 4 0 1 51", "settle = 1",
                "borne 0 0 = 1", "ofAccount 1 0 = 99", "ofAccount 2 0 = 99");
        S.sentence("and its OWN pays of what it has, not of what it is to get");
        S.run("2* member 0; contract 0 0 50; pay 4 0 10; trade 0 4 0 1 40; trade 1 5 0 1 60", "settle = 1",
                "borne 0 0 = 10", "borne 0 4 = 10", "ofAccount 0 0 = 5", "ofAccount 5 0 = 5", "ofAccount 4 0 = 0");
        S.sentence("of each MEMBER its own: another one's OWN pays nothing");
        S.run("3* member 0; contract 0 0 50; pay 0 0 99; pay 8 0 99; trade 5 9 0 1 51", "settle = 1",
                "ofMember 1 1 = 1", "ofAccount 0 0 = 99", "ofAccount 8 0 = 99");
    }

    private static void outOnce() {
        S.sentence("A MEMBER is SHORT by the sum of that, and is OUT (if it is not yet)");
        S.run("2* member 0; 2* client 0; contract 0 0 50; contract 2 0 50",
                "trade 0 4 0 1 51; trade 1 4 0 1 52; trade 2 4 0 1 53; trade 3 4 0 1 54",
                "trade 2 4 1 1 55; trade 0 4 1 1 51", "settle = 1", "borne 0 0 = 10", "borne 1 0 = 6", "house 1 = 1");
        S.run("2* member 0; contract 0 0 50; scenario; shift 0 0 -10 0; trade 0 4 0 1 51", "call 0 = 11", "settle = 1",
                "borne 0 0 = 1", "ofMember 0 1 = 1", "pay 4 0 5", "price 0 49", "settle = 0", "borne 0 0 = 1",
                "borne 0 4 = 1", "house 1 = 1");
        S.sentence("how many MEMBERS are OUT by it");
        S.run("5* member 0; contract 0 0 50; trade 0 16 0 1 51; trade 5 16 0 1 51",
                "trade 8 16 0 1 51; trade 13 17 0 1 51", "settle = 4", "house 1 = 1", "borne 0 0 = 4",
                "ofAccount 16 0 = 0", "settle = 0");
        S.run("5* member 0; contract 0 0 50; contract 1 0 50; trade 0 4 0 1 51; trade 4 8 0 1 52; trade 8 12 0 1 53",
                "trade 12 16 0 1 54; trade 16 0 1 1 55", "settle = 4", "ofMember 0 1 = 0", "ofMember 4 1 = 1",
                "borne 0 0 = 4");
    }

    /** Member 0 is short by 10; 1 and 2 gain 4 and 6. */
    private static final String SHORT_OF_10 = "3* member 0; contract 0 0 50; trade 0 4 0 1 54; trade 0 8 0 1 56";

    private static void ownFund() {
        S.sentence("of each that is SHORT, first what it has in the FUND in this MONEY, for its own");
        S.run(SHORT_OF_10, "give 0 0 10; endow 0 5; give 1 0 5", "settle = 1", "borne 0 0 = 10", "borne 0 1 = 10",
                "borne 0 2 = 0", "borne 0 3 = 0", "borne 0 4 = 0", "ofMember 0 3 = 0", "ofAccount 8 0 = 6");
        S.run(SHORT_OF_10, "give 0 0 11; endow 0 5; give 1 0 5", "settle = 1", "borne 0 1 = 10", "borne 0 2 = 0",
                "ofMember 0 3 = 1");
        S.run(SHORT_OF_10, "give 0 0 9; endow 0 5; give 1 0 5", "settle = 1", "borne 0 1 = 9", "borne 0 2 = 1",
                "borne 0 3 = 0", "total 0 2 = 4", "ofMember 0 3 = 0");
        S.sentence("for its own: what is left of one that is SHORT bears nothing for another one");
        S.run("4* member 0; contract 0 0 50; give 0 0 10; give 3 0 1; trade 0 8 0 1 52; trade 4 8 0 1 58",
                "settle = 2", "borne 0 0 = 10", "borne 0 1 = 2", "borne 0 2 = 0", "borne 0 3 = 1", "borne 0 4 = 7",
                "ofMember 0 3 = 8", "ofMember 3 3 = 0", "ofAccount 8 0 = 3");
        S.sentence("one that was OUT already is SHORT again, with what it has in the FUND");
        S.run("2* member 0; contract 0 0 50; give 0 0 3; trade 0 4 0 1 51", "settle = 1", "borne 0 1 = 1", "price 0 47",
                "settle = 0", "borne 0 0 = 3", "borne 0 1 = 2", "borne 0 4 = 1", "ofMember 0 3 = 0");
    }

    private static void housesPart() {
        S.sentence("then the HOUSE's PART");
        S.run(SHORT_OF_10, "endow 0 10; give 1 0 5", "settle = 1", "borne 0 2 = 10", "borne 0 3 = 0", "borne 0 4 = 0",
                "total 0 2 = 0", "total 0 1 = 5");
        S.run(SHORT_OF_10, "endow 0 11; give 1 0 5", "settle = 1", "borne 0 2 = 10", "total 0 2 = 1", "total 0 1 = 5");
        S.run(SHORT_OF_10, "endow 0 9; give 1 0 5", "settle = 1", "borne 0 2 = 9", "borne 0 3 = 1", "borne 0 4 = 0",
                "total 0 2 = 0", "total 0 1 = 4");
        S.sentence("MONEY by MONEY, once payments are done in both");
        S.run("2* member 0; contract 0 0 50; contract 2 0 50; endow 0 3; endow 1 4; trade 0 4 0 1 55; trade 0 4 1 1 55",
                "settle = 1", "borne 0 0 = 5", "borne 0 2 = 3", "borne 0 4 = 2", "borne 1 0 = 5", "borne 1 2 = 4",
                "borne 1 4 = 1");
    }

    private static void fundOfOthers() {
        S.sentence("then what GOOD MEMBERS have in the FUND, the amount SPREAD by that");
        S.run(SHORT_OF_10, "give 1 0 6; give 2 0 4", "settle = 1", "borne 0 3 = 10", "borne 0 4 = 0", "total 0 1 = 0");
        S.run(SHORT_OF_10, "give 1 0 6; give 2 0 5", "settle = 1", "borne 0 3 = 10", "ofMember 1 3 = 0",
                "ofMember 2 3 = 1");
        S.run(SHORT_OF_10, "give 1 0 6; give 2 0 3", "settle = 1", "borne 0 3 = 9", "borne 0 4 = 1",
                "ofAccount 4 0 = 3", "ofAccount 8 0 = 6");
        S.sentence("SPREAD: what is left goes, one each, to the first ones with a weight above 0");
        S.run("5* member 0; contract 0 0 50; give 0 0 5; give 2 0 5; give 3 0 5; trade 16 4 0 1 54", "settle = 1",
                "borne 0 3 = 4", "ofMember 0 3 = 3", "ofMember 1 3 = 0", "ofMember 2 3 = 4", "ofMember 3 3 = 4");
        S.run("5* member 0; contract 0 0 50; give 1 0 5; give 2 0 5; give 3 0 5; trade 16 4 0 1 55", "settle = 1",
                "borne 0 3 = 5", "ofMember 0 3 = 0", "ofMember 1 3 = 3", "ofMember 2 3 = 3", "ofMember 3 3 = 4");
        S.run("5* member 0; contract 0 0 50; give 1 0 1; give 2 0 1; give 3 0 9; trade 16 4 0 1 51", "settle = 1",
                "borne 0 3 = 1", "ofMember 1 3 = 0", "ofMember 2 3 = 1", "ofMember 3 3 = 9");
        S.run("3* member 0; contract 0 0 50; contract 2 0 50; give 1 1 2; give 2 1 2",
                "trade 0 4 0 9 51; trade 0 8 1 1 53", "settle = 1", "borne 0 3 = 0", "borne 0 4 = 9", "borne 1 3 = 3",
                "borne 1 4 = 0", "ofMember 1 4 = 0", "ofMember 2 4 = 1", "ofAccount 8 1 = 3");
        S.sentence("GOOD MEMBERS alone: those who are OUT by this SETTLING, in the other MONEY too, are not asked");
        S.run("4* member 0; contract 0 0 50; contract 2 0 50; give 1 0 5; give 2 0 5; give 3 0 5",
                "trade 0 12 0 1 53; trade 4 12 1 1 51", "settle = 2", "borne 0 3 = 3", "borne 1 0 = 1",
                "ofMember 1 3 = 5", "ofMember 2 3 = 3", "ofMember 3 3 = 4");
        S.run("3* member 0; contract 0 0 50; give 1 0 5; scenario; shift 0 0 -10 0; trade 4 8 0 1 50; call 4",
                "trade 0 8 0 1 52", "settle = 2", "borne 0 3 = 0", "borne 0 4 = 2", "ofMember 1 3 = 5");
    }

    private static void gains() {
        S.sentence("what is still missing is taken off those whose DUE is above 0, SPREAD by DUE");
        S.run(SHORT_OF_10, "settle = 1", "borne 0 4 = 10", "ofAccount 4 0 = 0", "ofAccount 8 0 = 0");
        S.run(SHORT_OF_10, "endow 0 1", "settle = 1", "borne 0 4 = 9", "ofAccount 4 0 = 0", "ofAccount 8 0 = 1");
        S.run(SHORT_OF_10, "endow 0 9", "settle = 1", "borne 0 4 = 1", "ofAccount 4 0 = 3", "ofAccount 8 0 = 6");
        S.run("3* member 0; contract 0 0 50; endow 0 1; trade 8 0 0 1 51; trade 8 4 0 1 51; trade 8 5 0 1 51",
                "settle = 1", "borne 0 4 = 2", "ofAccount 0 0 = 0", "ofAccount 4 0 = 0", "ofAccount 5 0 = 1");
        S.sentence("also off one that is OUT, and off another ACCOUNT of the one that is SHORT");
        S.run("2* member 0; contract 0 0 50; trade 0 1 0 1 54", "settle = 1", "borne 0 0 = 4", "borne 0 4 = 4",
                "ofAccount 1 0 = 0");
        S.sentence("(That is always enough.)");
        S.run("5* member 0; contract 0 0 0; limit 0 200; limit 1 200; 4* trade 0 4 0 50 99", "settle = 1",
                "borne 0 0 = 19800", "borne 0 4 = 19800", "total 0 0 = 0", "isSound = 1", "ofAccount 4 0 = 0");
        S.sentence("DUE above 0 of one MONEY bears nothing in the other");
        S.run("2* member 0; contract 0 0 50; contract 2 0 50; pay 4 1 9; trade 0 4 0 1 51; trade 0 4 1 1 41",
                "settle = 1", "borne 0 4 = 1", "borne 1 4 = 0", "ofAccount 0 1 = 9", "ofAccount 4 0 = 0");
    }

    private static void newCalls() {
        S.sentence("each ACCOUNT of a GOOD MEMBER that LACKS something gets a CALL for the next DAY");
        S.run("3* member 0; client 0; contract 0 0 50; scenario; shift 0 0 -10 0; pay 0 0 9; pay 2 0 10; pay 4 0 1",
                "trade 0 9 0 1 50; trade 2 9 0 1 50; trade 4 9 0 1 52", "settle = 1", "calls = 0@1", "house 8 = 1",
                "ofAccount 0 8 = 1", "ofAccount 2 8 = -1", "ofAccount 4 6 = 10", "ofAccount 4 8 = -1");
        S.sentence("LACKS something as it is behind all payments");
        S.run("2* member 0; contract 0 0 50; scenario; shift 0 0 -10 0; pay 4 0 99; trade 0 4 0 1 40", "settle = 0",
                "calls =", "ofAccount 0 0 = 10");
        S.run("2* member 0; contract 0 0 50; scenario; shift 0 0 -10 0; pay 0 0 10; trade 1 4 0 1 51; pay 1 0 10",
                "trade 0 4 0 1 50", "settle = 0", "calls = 1@1", "ofAccount 1 0 = 9", "ofAccount 0 0 = 10");
        S.sentence("CALLS of all MEMBERS, by ACCOUNT");
        S.run("5* member 0; client 3; contract 0 0 50; big 0 0 9; trade 16 0 0 1 50",
                "trade 17 14 0 1 50; trade 5 9 0 1 50", "settle = 0", "calls = 0@1 5@1 9@1 14@1 16@1 17@1",
                "house 8 = 6", "settle = 5", "calls =");
    }

    private static void morning() {
        S.sentence("each PRICE can be told again; it is MORNING, without WORDS and trades");
        S.run("2* member 0; contract 0 0 50; option 0 1 50 5; trade 0 4 0 1 50", "house 7 = 5", "house 6 = 1",
                "price 0 50 ! state", "settle = 0", "house 7 = 0", "house 6 = 0", "ofTrade 0 0 ! index",
                "correct 0 5 ! index", "price 0 50 = 50", "price 1 5 = 5", "price 0 50 ! state", "price 1 5 ! state",
                "house 7 = 2", "settle", "house 7 = 0", "price 0 51 = 50", "ofSeries 1 6 = 0");
    }

    private static void borne() {
        S.sentence("BORNE of the last SETTLING (0 ahead of the first one)");
        S.run("borne 0 0 = 0", "borne 0 4 = 0", "borne 1 0 = 0", "borne 1 4 = 0", "borne 2 0 ! value",
                "borne -1 0 ! value", "borne 0 5 ! value", "borne 0 -1 ! value");
        S.run(SHORT_OF_10, "give 0 0 1; endow 0 2; give 1 0 3", "settle = 1", "borne 0 0 = 10", "borne 0 1 = 1",
                "borne 0 2 = 2", "borne 0 3 = 3", "borne 0 4 = 4", "borne 1 0 = 0", "price 0 49", "borne 0 0 = 10",
                "pay 0 0 9", "settle = 0", "borne 0 0 = 0", "borne 0 1 = 0", "borne 0 2 = 0", "borne 0 3 = 0",
                "borne 0 4 = 0", "undo", "borne 0 0 = 10", "borne 0 4 = 4");
    }
}
