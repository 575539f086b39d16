/** The edges in part 1 of the document's description: members, accounts, series, trades and prices. */
public final class EdgeHouseTest {
    private static final Script S = new Script("EdgeHouseTest");

    private EdgeHouseTest() { }

    public static void main(String[] args) {
        members();
        accounts();
        limits();
        moneys();
        balances();
        series();
        trades();
        prices();
        free();
        S.end();
    }

    private static void members() {
        S.sentence("MEMBERS: at most 5, numbered from 0");
        S.run("house 0 = 0", "member 0 = 0", "member 0 = 1", "member 1 = 2", "member 0 = 3", "member 1 = 4",
                "house 0 = 5", "house 1 = 5", "member 0 ! state", "member 1 ! state", "house 0 = 5",
                "ofMember 5 0 ! index", "undo", "house 0 = 4", "member 0 = 4", "member 0 ! state");
        S.sentence("a LINK is one that stands for another house");
        S.run("member 1; member 0", "ofMember 0 0 = 1", "ofMember 1 0 = 0");
        S.sentence("STATE: 0 GOOD, 1 OUT (it has defaulted)");
        S.run("2* member 0; contract 0 0 50", "ofMember 0 1 = 0", "trade 0 4 0 1 51", "ofMember 0 1 = 0", "settle = 1",
                "ofMember 0 1 = 1", "ofMember 1 1 = 0", "house 0 = 2", "house 1 = 1");
        S.run("2* member 0; contract 0 0 50", "trade 0 4 0 1 50", "settle = 0", "ofMember 0 1 = 0", "house 1 = 2");
    }

    private static void accounts() {
        S.sentence("ACCOUNTS: 4 * MEMBER + SLOT");
        S.run("5* member 0", "client 0 = 2", "client 0 = 3", "client 4 = 18", "client 4 = 19", "client 2 = 10",
                "ofAccount 19 0 = 0", "ofAccount 20 0 ! index", "ofAccount -1 0 ! index", "ofAccount 10 0 = 0",
                "ofAccount 11 0 ! index", "ofMember 2 8 = 3", "ofMember 4 8 = 4", "house 2 = 15");
        S.run("5* member 0; 2* client 0; 2* client 1; 2* client 2; 2* client 3; 2* client 4", "house 2 = 20",
                "client 0 = -9", "client 4 = -9", "pay 19 1 9 = 9", "ofAccount 19 1 = 9");
        S.sentence("A MEMBER has OWN and TOGETHER from the beginning, a LINK OWN alone");
        S.run("member 0; member 1", "house 2 = 3", "ofAccount 0 0 = 0", "ofAccount 1 0 = 0", "ofAccount 2 0 ! index",
                "ofAccount 3 0 ! index", "ofAccount 4 0 = 0", "ofAccount 5 0 ! index", "ofAccount 6 0 ! index",
                "ofAccount 7 0 ! index", "client 1 ! state", "ofMember 0 8 = 2", "ofMember 1 8 = 1");
        S.sentence("SLOTS 2 and 3 come with client(), 2 ahead of 3");
        S.run("member 0", "client 0 = 2", "ofAccount 2 0 = 0", "ofAccount 3 0 ! index", "client 0 = 3",
                "ofAccount 3 0 = 0", "client 0 = -9", "undo", "ofAccount 3 0 ! index", "client 0 = 3",
                "client 0 = -9", "client 0 = -9");
    }

    private static void limits() {
        S.sentence("LIMIT of a MEMBER: 1 to 200 (50 at first)");
        S.run("2* member 0; contract 0 0 50", "ofMember 0 2 = 50", "ofMember 1 2 = 50", "limit 0 0 ! value",
                "limit 0 201 ! value", "trade 0 4 0 50 50 = 0", "trade 0 4 0 1 50 = -9", "limit 0 200 = 50",
                "trade 0 4 0 1 50 = -9", "limit 1 200 = 50", "3* trade 0 4 0 50 50", "position 0 0 = 200",
                "position 4 0 = -200", "trade 0 4 0 1 50 = -9", "trade 4 0 0 50 50", "limit 0 1 = 200",
                "ofMember 0 2 = 1", "ofMember 1 2 = 200");
        S.run("2* member 0; contract 0 0 50; limit 0 1", "trade 0 4 0 2 50 = -9", "trade 4 0 0 2 50 = -9",
                "trade 0 4 0 1 50 = 0", "trade 4 0 0 2 50 = 1", "position 0 0 = -1");
        S.sentence("A trade behind which a POSITION of one of both would be, without sign, above LIMIT is REFUSED");
        S.run("2* member 0; contract 0 0 50; limit 0 3", "trade 0 4 0 4 50 = -9", "trade 4 0 0 4 50 = -9",
                "trade 0 4 0 3 50 = 0", "trade 4 0 0 7 50 = -9", "trade 4 0 0 6 50 = 1", "position 0 0 = -3",
                "position 4 0 = 3", "trade 1 0 0 1 50 = -9", "trade 0 1 0 4 50 = -9", "trade 0 1 0 3 50 = 2",
                "limit 0 1", "trade 1 4 0 1 50 = -9", "trade 1 4 0 2 50 = 3", "position 1 0 = -1");
        S.run("2* member 0; contract 0 0 50; limit 1 3", "trade 0 4 0 4 50 = -9", "trade 4 0 0 4 50 = -9",
                "trade 0 4 0 3 50 = 0", "ofAccount 0 2 = 0", "house 6 = 1", "limit 1 2", "position 4 0 = -3");
    }

    private static void moneys() {
        S.sentence("RATE (1 to 9; 2 at first; MONEY 0: 1)");
        S.run("member 0", "house 9 = 2", "pay 0 0 100; pay 0 1 7", "ofAccount 0 5 = 114", "rate 1 = 2",
                "ofAccount 0 5 = 107", "rate 9 = 1", "ofAccount 0 5 = 163", "rate 10 ! value", "rate 0 ! value",
                "house 9 = 9");
        S.sentence("COUNTS: tenths of a MONEY that count as DEPOSIT (0 to 10; 10 at first)");
        S.run("member 0; pay 0 0 9; pay 0 1 9", "ofAccount 0 5 = 27", "counts 0 1 = 10", "ofAccount 0 5 = 18",
                "counts 0 0 = 1", "ofAccount 0 5 = 18", "counts 1 1 = 10", "ofAccount 0 5 = 1", "counts 1 0 = 1",
                "ofAccount 0 5 = 0", "counts 0 10 = 0", "ofAccount 0 5 = 9", "counts 0 11 ! value",
                "counts 0 -1 ! value");
        S.sentence("There are two MONEYS, 0 and 1");
        S.run("member 0", "pay 0 0 1 = 1", "pay 0 1 2 = 2", "ofAccount 0 0 = 1", "ofAccount 0 1 = 2",
                "pay 0 2 1 ! value", "pay 0 -1 1 ! value", "give 0 0 3 = 3", "give 0 1 4 = 4", "ofMember 0 3 = 3",
                "ofMember 0 4 = 4", "endow 0 5 = 5", "endow 1 6 = 6", "member 0; member 0", "give 2 0 1 = 1",
                "give 2 1 2 = 2", "give 0 0 1 = 4", "total 0 1 = 5", "total 1 1 = 6", "total 0 2 = 5",
                "total 1 2 = 6", "total 0 3 = 11", "total 1 3 = 14", "take 0 1 2 = 0", "total 0 4 = 0",
                "total 1 4 = 2");
    }

    private static void balances() {
        S.sentence("a BALANCE (never below 0) and DUE; both 0 at first");
        S.run("2* member 0; client 0", "ofAccount 0 0 = 0", "ofAccount 1 1 = 0", "ofAccount 2 2 = 0",
                "ofAccount 2 3 = 0", "take 0 0 1 = -9", "pay 0 0 5 = 5", "take 0 0 6 = -9", "take 0 1 1 = -9",
                "take 0 0 5 = 0", "take 0 0 1 = -9", "contract 0 0 50", "pay 0 0 3", "trade 0 4 0 1 54", "settle = 1",
                "ofAccount 0 0 = 0", "ofAccount 4 0 = 3", "total 0 0 = 3");
        S.sentence("amount 1 to 9999");
        S.run("member 0", "pay 0 0 0 ! value", "pay 0 0 1 = 1", "pay 0 0 9999 = 10000", "pay 0 0 10000 ! value",
                "take 0 0 0 ! value", "take 0 0 10000 ! value", "take 0 0 9999 = 1", "take 0 0 1 = 0",
                "give 0 0 0 ! value", "give 0 0 1 = 1", "give 0 0 9999 = 10000", "give 0 0 10000 ! value",
                "endow 0 0 ! value", "endow 0 1 = 1", "endow 0 9999 = 10000", "endow 0 10000 ! value",
                "total 0 3 = 30000", "total 0 4 = 10000");
    }

    private static void series() {
        S.sentence("SERIES: at most 8, numbered from 0");
        S.run("house 3 = 0", "contract 0 0 50 = 0", "option 0 1 50 0 = 1", "contract 1 0 50 = 2",
                "option 2 0 50 0 = 3", "option 2 1 50 0 = 4", "contract 2 5 50 = 5", "contract 2 4 50 = 6",
                "option 6 1 9 9 = 7", "house 3 = 8", "contract 0 0 50 ! state", "option 0 1 50 0 ! state",
                "ofSeries 8 0 ! index", "price 8 5 ! index", "undo = 7", "house 3 = 7", "ofSeries 7 0 ! index",
                "contract 2 5 99 = 7", "option 7 1 0 0 ! state", "ofSeries 7 3 = 99", "ofSeries 7 4 = -1");
        S.sentence("a CONTRACT has a GOOD and a MONTH (0 to 5), STRIKE (0 to 99), PRICE (0 to 99)");
        S.run("contract 0 0 0 = 0", "contract 2 5 99 = 1", "ofSeries 0 1 = 0", "ofSeries 1 1 = 2", "ofSeries 0 2 = 0",
                "ofSeries 1 2 = 5", "ofSeries 0 3 = 0", "ofSeries 1 3 = 99", "contract 0 6 0 ! value",
                "contract 0 -1 0 ! value", "contract 3 0 0 ! value", "contract -1 0 0 ! value",
                "contract 0 0 100 ! value", "contract 0 0 -1 ! value", "option 0 1 0 0 = 2", "option 1 0 99 99 = 3",
                "ofSeries 2 4 = 0", "ofSeries 3 4 = 99", "ofSeries 2 3 = 0", "ofSeries 3 3 = 99",
                "option 0 1 100 0 ! value", "option 0 1 -1 0 ! value", "option 0 1 0 100 ! value",
                "option 0 1 0 -1 ! value", "option 2 1 0 0 ! value", "option 4 1 0 0 ! index");
        S.sentence("GOODS: what is paid for 0 and 1 is MONEY 0, for 2 MONEY 1");
        S.run("2* member 0; contract 0 0 50; contract 1 0 50; contract 2 0 50; option 1 1 40 12; option 2 0 60 12",
                "trade 0 4 0 1 49", "ofAccount 0 2 = 1", "ofAccount 0 3 = 0", "trade 0 4 1 1 49", "ofAccount 0 2 = 2",
                "ofAccount 0 3 = 0", "trade 0 4 2 1 49", "ofAccount 0 2 = 2", "ofAccount 0 3 = 1", "trade 0 4 3 1 11",
                "ofAccount 0 2 = 3", "ofAccount 0 3 = 1", "trade 0 4 4 1 11", "ofAccount 0 2 = 3", "ofAccount 0 3 = 2",
                "ofAccount 4 2 = -3", "ofAccount 4 3 = -2");
        S.sentence("An ACCOUNT has a POSITION in each SERIES, 0 at first");
        S.run("member 0; contract 0 0 50", "position 0 0 = 0", "position 1 0 = 0", "client 0", "position 2 0 = 0",
                "contract 0 1 50", "position 0 1 = 0", "position 2 1 = 0", "position 2 2 ! index", "book 2 =");
    }

    private static void trades() {
        S.sentence("DUE of the buyer greater by lots * (PRICE - the price of the trade), that of the seller less");
        S.run("2* member 0; contract 0 0 0; contract 1 0 99", "trade 0 4 0 50 99 = 0", "ofAccount 0 2 = -4950",
                "ofAccount 4 2 = 4950", "position 0 0 = 50", "position 4 0 = -50", "trade 4 0 1 50 0 = 1",
                "ofAccount 0 2 = -9900", "ofAccount 4 2 = 9900", "position 0 1 = -50", "trade 0 4 1 1 99 = 2",
                "ofAccount 0 2 = -9900", "trade 0 4 1 1 98 = 3", "ofAccount 0 2 = -9899", "ofAccount 4 2 = 9899");
        S.sentence("both ACCOUNTS are the same, lots is not 1 to 50, or price not 0 to 99");
        S.run("2* member 0; contract 0 0 50", "trade 0 0 0 1 50 ! value", "trade 0 4 0 0 50 ! value",
                "trade 0 4 0 51 50 ! value", "trade 0 4 0 1 -1 ! value", "trade 0 4 0 1 100 ! value",
                "trade 0 4 0 1 0 = 0", "trade 0 1 0 49 99 = 1", "trade 1 5 0 50 50 = 2", "position 1 0 = 1");
        S.sentence("its number among the trades of this DAY, from 0");
        S.run("2* member 0; contract 0 0 50", "house 6 = 0", "trade 0 4 0 1 50 = 0", "pay 0 0 5",
                "trade 0 4 0 1 50 = 1", "limit 0 2", "trade 0 4 0 1 50 = -9", "trade 4 0 0 1 50 = 2", "house 6 = 3",
                "undo", "house 6 = 2", "trade 4 0 0 1 50 = 2", "settle", "house 6 = 0", "ofTrade 0 0 ! index",
                "trade 4 0 0 1 50 = 0");
    }

    private static void prices() {
        S.sentence("As a PRICE is told, DUE of each ACCOUNT grows by POSITION * (new PRICE - old PRICE)");
        S.run("2* member 0; contract 0 0 0; limit 0 200; limit 1 200; 4* trade 0 4 0 50 0; settle", "price 0 99 = 0",
                "ofAccount 0 2 = 19800", "ofAccount 4 2 = -19800", "ofAccount 1 2 = 0", "ofAccount 0 3 = 0",
                "price 0 99 ! state", "undo", "ofAccount 0 2 = 0", "price 0 0 = 0", "ofAccount 0 2 = 0",
                "price 0 1 ! state");
        S.run("2* member 0; contract 2 0 99; trade 0 4 0 1 99; settle", "price 0 0 = 99", "ofAccount 0 3 = -99",
                "ofAccount 4 3 = 99", "ofAccount 0 2 = 0", "pay 0 1 99; settle", "price 0 99 = 0",
                "ofAccount 0 3 = 99");
        S.sentence("its PRICE (that counts as told on this DAY)");
        S.run("contract 0 0 50; option 0 1 50 5", "ofSeries 0 6 = 1", "ofSeries 1 6 = 1", "price 0 50 ! state",
                "price 1 50 ! state", "settle", "ofSeries 0 6 = 0", "ofSeries 1 6 = 0", "price 1 6 = 5",
                "ofSeries 0 6 = 0", "ofSeries 1 6 = 1", "price 1 6 ! state", "price 0 51 = 50", "contract 0 0 50",
                "price 2 50 ! state", "settle", "price 2 50 = 50");
        S.sentence("PRICE told is not 0 to 99");
        S.run("contract 0 0 50; settle", "price 0 100 ! value", "price 0 -1 ! value", "price 0 min ! value",
                "price 0 max ! value", "price 1 5 ! index", "price -1 5 ! index", "price 0 99 = 50", "settle",
                "price 0 0 = 99", "price 0 100 ! value");
    }

    private static void free() {
        S.sentence("An ACCOUNT is FREE, if its MEMBER is GOOD");
        S.run("3* member 0; 2* client 0; contract 0 0 50; option 0 1 50 5; 4* pay 3 0 50; trade 0 4 0 1 51",
                "trade 3 4 1 2 5", "trade 2 8 0 2 50", "trade 4 2 0 3 50", "settle = 1", "ofMember 0 1 = 1",
                "trade 0 4 0 1 50 ! state", "trade 4 0 0 1 50 ! state", "trade 1 4 0 1 50 ! state",
                "trade 2 4 0 1 50 ! state", "trade 4 3 0 1 50 ! state", "take 3 0 1 ! state", "call 0 ! state",
                "call 3 ! state", "use 3 1 1 0 ! state", "deliver 2 0 1 0 ! state", "client 0 ! state",
                "give 0 0 1 ! state", "pay 0 0 1 = 1", "trade 4 8 0 1 50 = 0", "limit 0 3 = 50", "pay 4 0 1 = 1",
                "take 4 0 1 = 0");
    }
}
