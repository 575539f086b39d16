/** The edges in part 2 of the document's description: scenarios, losses, deposits, cover and calls. */
public final class EdgeDepositTest {
    private static final Script S = new Script("EdgeDepositTest");

    private EdgeDepositTest() { }

    public static void main(String[] args) {
        scenarios();
        worths();
        losses();
        offsets();
        adds();
        deposits();
        covers();
        lacks();
        calls();
        S.end();
    }

    private static void scenarios() {
        S.sentence("SCENARIOS: at most 5, numbered from 0");
        S.run("house 4 = 0", "scenario = 0", "scenario = 1", "scenario = 2", "scenario = 3", "shift 4 0 0 0 ! index",
                "scenario = 4", "scenario ! state", "house 4 = 5", "shift 4 0 1 1 = 0", "shift 5 0 1 1 ! index",
                "2* undo", "house 4 = 4", "scenario = 4", "scenario ! state", "contract 0 3 50", "moved 4 0 = 0");
        S.sentence("of each GOOD a SHIFT (-20 to 20) and a TILT (-5 to 5), 0 at first");
        S.run("2* scenario; contract 0 5 50; contract 0 0 50; contract 1 5 50; contract 2 5 50", "moved 0 0 = 0",
                "shift 0 0 20 5 = 0", "moved 0 0 = 45", "moved 0 1 = 20", "moved 0 2 = 0", "moved 0 3 = 0",
                "moved 1 0 = 0", "shift 0 0 -20 -5 = 20", "moved 0 0 = -45", "moved 0 1 = -20",
                "shift 0 0 21 0 ! value", "shift 0 0 -21 0 ! value", "shift 0 0 0 6 ! value",
                "shift 0 0 0 -6 ! value", "shift 0 3 0 0 ! value", "shift 0 -1 0 0 ! value", "shift 0 2 1 1 = 0",
                "moved 0 3 = 6", "shift 0 0 0 0 = -20", "moved 0 0 = 0", "moved 0 1 = 0");
        S.sentence("SHIFT before may be -9, which is no REFUSED");
        S.run("scenario; contract 0 0 50", "shift 0 0 -9 0 = 0", "house 7 = 3", "shift 0 0 4 0 = -9", "house 7 = 4",
                "house 16 = 4", "moved 0 0 = 4", "undo = 3", "moved 0 0 = -9", "shift 0 0 -9 1 = -9", "house 7 = 4");
        S.sentence("the PRICE of a CONTRACT moves by SHIFT + TILT * MONTH");
        S.run("scenario; contract 0 0 50; contract 0 1 50; contract 0 2 50; contract 0 3 50; contract 0 4 50",
                "shift 0 0 -4 2", "moved 0 0 = -4", "moved 0 1 = -2", "moved 0 2 = 0", "moved 0 3 = 2", "moved 0 4 = 4",
                "contract 0 5 50", "moved 0 5 = 6", "option 5 1 53 1", "moved 0 6 = 3", "option 5 0 52 1",
                "moved 0 7 = -2");
    }

    private static void worths() {
        S.sentence("WORTH of a CALL is PRICE of the CONTRACT less STRIKE, of a PUT STRIKE less that PRICE, 0 at least");
        S.run("contract 0 0 50; option 0 1 50 0; option 0 0 50 0; option 0 1 49 0; option 0 0 51 0; option 0 1 51 0",
                "option 0 0 49 0; scenario", "shift 0 0 1 0", "moved 0 1 = 1", "moved 0 2 = 0", "moved 0 3 = 1",
                "moved 0 4 = -1", "moved 0 5 = 0", "moved 0 6 = 0", "shift 0 0 -1 0", "moved 0 1 = 0", "moved 0 2 = 1",
                "moved 0 3 = -1", "moved 0 4 = 1", "moved 0 5 = 0", "moved 0 6 = 0", "shift 0 0 2 0", "moved 0 1 = 2",
                "moved 0 2 = 0", "moved 0 3 = 2", "moved 0 4 = -1", "moved 0 5 = 1", "moved 0 6 = 0", "shift 0 0 -2 0",
                "moved 0 1 = 0", "moved 0 2 = 2", "moved 0 3 = -1", "moved 0 4 = 2", "moved 0 5 = 0", "moved 0 6 = 1");
        S.sentence("PRICES can come below 0 in this");
        S.run("contract 0 5 0; option 0 0 0 0; option 0 1 0 0; option 0 0 99 0; scenario", "shift 0 0 -20 -5",
                "moved 0 0 = -45", "moved 0 1 = 45", "moved 0 2 = 0", "moved 0 3 = 45", "shift 0 0 20 5",
                "moved 0 0 = 45", "moved 0 1 = 0", "moved 0 2 = 45", "moved 0 3 = -45");
        S.run("contract 0 5 99; option 0 1 99 0; option 0 1 0 0; option 0 0 99 0; scenario", "shift 0 0 20 5",
                "moved 0 1 = 45", "moved 0 2 = 45", "moved 0 3 = 0", "shift 0 0 -20 -5", "moved 0 1 = 0",
                "moved 0 2 = -45", "moved 0 3 = 45");
        S.sentence("An OPTION moves as its CONTRACT moves, from the PRICE that this has now");
        S.run("contract 0 0 50; option 0 1 55 0; scenario; shift 0 0 5 0", "moved 0 1 = 0", "settle", "price 1 9 = 0",
                "moved 0 1 = 0", "price 0 51 = 50", "moved 0 1 = 1", "undo", "moved 0 1 = 0", "price 0 60",
                "moved 0 1 = 5");
    }

    private static void losses() {
        S.sentence("if that is below 0, it counts in full; if above 0, tenths of it count (rounded down)");
        S.run("2* member 0; contract 0 0 50; contract 1 0 50; contract 2 0 50; scenario",
                "trade 0 4 0 1 50; trade 0 4 1 1 50; trade 0 4 2 1 50", "loss 0 0 = 0", "loss 4 0 = 0",
                "shift 0 0 -1 0", "loss 0 0 = 1", "loss 4 0 = 0", "shift 0 1 1 0", "loss 0 0 = 1", "loss 4 0 = 1",
                "shift 0 1 2 0", "loss 0 0 = 0", "loss 4 0 = 2", "shift 0 1 20 0", "loss 0 0 = 0", "loss 4 0 = 20");
        S.sentence("times RATE of its MONEY, and then tenths of it");
        S.run("2* member 0; contract 0 0 50; contract 2 0 50; scenario; shift 0 0 -1 0; shift 0 2 1 0",
                "trade 0 4 0 1 50; trade 0 4 1 1 50", "loss 0 0 = 0", "loss 4 0 = 2", "rate 1", "loss 0 0 = 1",
                "loss 4 0 = 1", "rate 3", "loss 0 0 = 0", "loss 4 0 = 3", "rate 9", "loss 4 0 = 9", "offset 1",
                "loss 0 0 = 1", "loss 4 0 = 9");
        S.sentence("minus the sum of these three: each GOOD is rounded by itself");
        S.run("2* member 0; contract 0 0 50; contract 1 0 50; contract 2 0 50; scenario; rate 1",
                "trade 0 4 0 1 50; trade 0 4 1 1 50; trade 0 4 2 1 50", "shift 0 0 1 0; shift 0 1 1 0; shift 0 2 -5 0",
                "loss 0 0 = 5", "shift 0 0 2 0; shift 0 1 2 0", "loss 0 0 = 3");
        S.sentence("of each GOOD the sum over its SERIES is its GAIN, before tenths are taken");
        S.run("2* member 0; contract 0 0 50; contract 0 1 50; option 0 1 50 3; scenario; shift 0 0 3 4",
                "trade 0 4 0 2 50; trade 4 0 1 1 50", "loss 0 0 = 1", "loss 4 0 = 0", "trade 0 4 2 1 3",
                "loss 0 0 = 0", "loss 4 0 = 2");
        S.sentence("LOSS is 0 at least");
        S.run("2* member 0; contract 0 0 50; contract 1 0 50; scenario; offset 10; shift 0 0 -5 0; shift 0 1 5 0",
                "trade 0 4 0 2 50; trade 0 4 1 2 50", "loss 0 0 = 0", "loss 4 0 = 0", "trade 0 4 1 1 50",
                "loss 0 0 = 0", "loss 4 0 = 5", "ofAccount 0 9 = -1", "ofAccount 4 9 = 0", "loss 1 0 = 0");
        S.sentence("the greatest losses there can be");
        S.run("2* member 0; contract 2 5 50; limit 0 200; limit 1 200; scenario; shift 0 2 -20 -5; rate 9",
                "4* trade 0 4 0 50 50", "loss 0 0 = 81000", "loss 4 0 = 0", "big 2 0 9", "ofAccount 0 4 = 97200",
                "ofAccount 4 4 = 16200", "stress 50", "house 12 = 567000");
    }

    private static void offsets() {
        S.sentence("OFFSET (0 to 10; 5 at first; rounded down)");
        S.run("2* member 0; contract 0 0 50; contract 1 0 50; scenario; shift 0 0 -20 0; shift 0 1 11 0",
                "trade 0 4 0 1 50; trade 0 4 1 1 50", "house 10 = 5", "loss 0 0 = 15", "offset 0 = 5", "loss 0 0 = 20",
                "offset 10 = 0", "loss 0 0 = 9", "offset 9 = 10", "loss 0 0 = 11", "offset 1 = 9", "loss 0 0 = 19",
                "offset 11 ! value", "offset -1 ! value", "house 10 = 1");
    }

    private static void adds() {
        S.sentence("ADD: the lots (without sign, of all its SERIES) above BIG, times MORE");
        S.run("2* member 0; contract 0 0 50; contract 0 5 50; option 0 1 50 5; contract 2 0 50; contract 1 0 50",
                "trade 0 4 0 10 50; trade 4 0 1 10 50", "ofAccount 0 7 = 0", "ofAccount 4 7 = 0", "trade 0 4 2 1 5",
                "ofAccount 0 7 = 1", "ofAccount 4 7 = 1", "big 0 21 9 = 20", "ofAccount 0 7 = 0", "big 0 20 9 = 21",
                "ofAccount 0 7 = 9", "big 0 20 0 = 20", "ofAccount 0 7 = 0", "big 0 0 1 = 20", "ofAccount 0 7 = 21",
                "trade 0 4 4 20 50", "ofAccount 0 7 = 21", "trade 0 4 4 1 50", "ofAccount 0 7 = 22", "big 1 200 9 = 20",
                "ofAccount 0 7 = 21", "big 0 200 9 = 0", "ofAccount 0 7 = 0");
        S.sentence("ADD times RATE");
        S.run("2* member 0; contract 2 0 50; contract 0 0 50; trade 0 4 0 21 50", "ofAccount 0 7 = 2", "rate 9",
                "ofAccount 0 7 = 9", "rate 1", "ofAccount 0 7 = 1", "trade 0 4 1 22 50", "ofAccount 0 7 = 3", "rate 9",
                "ofAccount 4 7 = 11", "ofAccount 1 7 = 0");
        S.sentence("BIG (0 to 200; 20 at first), MORE (0 to 9; 1 at first)");
        S.run("2* member 0; contract 1 0 50; contract 1 1 50; limit 0 200; limit 1 200; 4* trade 0 4 0 50 50",
                "ofAccount 0 7 = 180", "big 1 200 9 = 20", "ofAccount 0 7 = 0", "trade 4 0 1 1 50", "ofAccount 0 7 = 9",
                "big 1 199 9 = 200", "ofAccount 0 7 = 18", "big 1 201 9 ! value", "big 1 -1 9 ! value",
                "big 1 5 -1 ! value", "big 1 5 10 ! value", "big 3 5 5 ! value", "big -1 5 5 ! value",
                "ofAccount 0 7 = 18");
    }

    private static void deposits() {
        S.sentence("DEPOSIT: its greatest LOSS in a SCENARIO (0 without SCENARIOS), and the sum of ADD");
        S.run("2* member 0; contract 0 0 50; trade 0 4 0 22 50", "ofAccount 0 4 = 2", "ofAccount 0 9 = -1", "scenario",
                "ofAccount 0 4 = 2", "ofAccount 0 9 = -1", "shift 0 0 1 0", "ofAccount 0 4 = 2", "ofAccount 4 4 = 24",
                "ofAccount 4 9 = 0", "2* scenario; shift 2 0 2 0", "ofAccount 4 4 = 46", "ofAccount 4 9 = 2",
                "shift 1 0 2 0", "ofAccount 4 9 = 1", "shift 0 0 -1 0", "ofAccount 0 4 = 24", "ofAccount 0 9 = 0",
                "2* scenario; shift 4 0 -3 0", "ofAccount 0 4 = 68", "ofAccount 0 9 = 4");
    }

    private static void covers() {
        S.sentence("BALANCE * RATE * COUNTS / 10, of each MONEY rounded down");
        S.run("member 0; pay 0 0 19; pay 0 1 3; rate 3", "counts 0 9", "ofAccount 0 5 = 26", "counts 1 9",
                "ofAccount 0 5 = 25", "counts 0 5", "ofAccount 0 5 = 17", "counts 1 5", "ofAccount 0 5 = 13",
                "counts 0 1", "ofAccount 0 5 = 5", "counts 1 1", "ofAccount 0 5 = 1");
        S.sentence("what is DUE, times RATE, if it is below 0 (DUE above 0 does not count)");
        S.run("2* member 0; contract 2 0 50; contract 0 0 50; trade 0 4 0 1 51", "ofAccount 0 5 = -2",
                "ofAccount 4 5 = 0", "ofAccount 0 6 = 2", "counts 1 0", "ofAccount 0 5 = -2", "rate 9",
                "ofAccount 0 5 = -9", "trade 4 0 1 1 53", "ofAccount 4 5 = -3", "ofAccount 0 5 = -9", "pay 0 0 8",
                "ofAccount 0 5 = -1", "trade 4 0 0 1 51", "ofAccount 0 3 = 0", "ofAccount 0 5 = 8",
                "trade 4 0 0 1 51", "ofAccount 0 5 = 8");
    }

    private static void lacks() {
        S.sentence("It LACKS DEPOSIT less COVER, 0 at least");
        S.run("2* member 0; contract 0 0 50; scenario; shift 0 0 -10 0; trade 0 4 0 1 50", "ofAccount 0 6 = 10",
                "ofAccount 4 6 = 0", "pay 0 0 9", "ofAccount 0 6 = 1", "call 0 = 1", "pay 0 0 1", "ofAccount 0 6 = 0",
                "call 0 = -9", "pay 0 0 1", "ofAccount 0 6 = 0", "call 0 = -9", "call 1 = -9");
        S.sentence("-9 if that is not so much, or the ACCOUNT would LACK something then");
        S.run("2* member 0; contract 0 0 50; scenario; shift 0 0 -10 0; trade 0 4 0 1 50; pay 0 0 12; pay 0 1 1",
                "take 0 0 5 = -9", "take 0 0 4 = 8", "take 0 0 1 = -9", "take 0 1 1 = -9", "pay 0 0 1",
                "take 0 1 1 = -9", "pay 0 0 1", "take 0 0 3 = -9", "take 0 1 1 = 0", "take 0 0 1 = -9", "total 0 4 = 4",
                "total 1 4 = 1");
        S.sentence("a BALANCE that does not count can be taken, but not of an ACCOUNT that LACKS already");
        S.run("2* member 0; contract 0 0 50; counts 1 0; pay 0 1 5; pay 4 1 5; trade 0 4 0 1 51", "take 4 1 5 = 0",
                "take 0 1 1 = -9", "pay 0 0 1", "take 0 1 5 = 0");
    }

    private static void calls() {
        S.sentence("CALLS wait in an order: by the DAY on which they fall due, then by ACCOUNT");
        S.run("4* member 0; client 0; contract 0 0 50; scenario; shift 0 0 -10 0", "calls =", "house 8 = 0",
                "trade 12 5 0 1 50; trade 2 5 0 1 50; trade 8 5 0 1 50; trade 0 5 0 1 50", "call 12 = 10",
                "calls = 12@0", "call 8 = 10", "calls = 8@0 12@0", "call 2 = 10", "call 0 = 10",
                "calls = 0@0 2@0 8@0 12@0", "house 8 = 4", "settle = 3", "calls =", "house 8 = 0");
        S.sentence("An ACCOUNT has at most one; a later one or one of the same DAY is none");
        S.run("2* member 0; contract 0 0 50; scenario; shift 0 0 -10 0; trade 0 4 0 1 50", "ofAccount 0 8 = -1",
                "call 0 = 10", "ofAccount 0 8 = 0", "shift 0 0 -11 0", "call 0 = 11", "house 8 = 1", "calls = 0@0",
                "undo", "undo", "undo", "calls =", "settle = 0", "calls = 0@1", "ofAccount 0 8 = 1", "call 0 = 10",
                "calls = 0@1", "house 8 = 1", "house 7 = 1");
        S.sentence("CALLS of all 20 ACCOUNTS");
        S.run("5* member 0; 2* client 0; 2* client 1; 2* client 2; 2* client 3; 2* client 4",
                "contract 0 0 50; big 0 0 9",
                "trade 0 1 0 1 50; trade 2 3 0 1 50; trade 4 5 0 1 50; trade 6 7 0 1 50", "trade 8 9 0 1 50",
                "trade 10 11 0 1 50; trade 12 13 0 1 50; trade 14 15 0 1 50; trade 16 17 0 1 50",
                "trade 18 19 0 1 50", "settle = 0", "house 8 = 20",
                "calls = 0@1 1@1 2@1 3@1 4@1 5@1 6@1 7@1 8@1 9@1 10@1 11@1 12@1 13@1 14@1 15@1 16@1 17@1 18@1 19@1",
                "pay 0 0 9; pay 1 0 9; pay 2 0 9; pay 3 0 9", "settle = 4", "calls =", "house 8 = 0",
                "ofMember 0 1 = 0", "ofMember 4 1 = 1");
    }
}
