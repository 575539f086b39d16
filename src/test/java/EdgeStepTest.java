import java.util.ArrayList;
import java.util.List;

/**
 * Each kind of call that changes a house: undone, all is as it was; played again behind a corrected trade, all is as if
 * the trade had had that price from the beginning. Houses are compared by all that can be asked, and by what further
 * calls answer.
 */
public final class EdgeStepTest {
    private static final Check C = new Check("EdgeStepTest");

    /**
     * Nothing is as at first on the day 1: member 1 is out (4 has 3 lots of the series 0, 6 has 4 of 1), 3 is a link;
     * all terms are told, the fund and the part are filled, and something was borne and delivered.
     */
    private static final String[] DAY_0 = {
        "member 0", "member 0", "member 0", "member 1", "client 0", "client 1", "client 1", "limit 2 61",
        "limit 3 9", "contract 0 1 60", "contract 2 2 40", "option 0 1 50 10", "scenario", "scenario",
        "shift 0 0 -9 1", "shift 0 2 20 0", "shift 1 1 4 -2", "rate 3", "counts 0 9", "counts 1 8", "offset 4",
        "big 0 2 3", "big 2 1 2", "stress 23", "pay 0 0 300", "pay 4 0 12", "pay 8 0 90", "pay 8 1 50", "pay 6 1 50",
        "pay 0 1 7", "take 0 1 2", "give 0 0 6", "give 2 1 5", "give 1 0 3", "endow 0 2", "endow 1 9",
        "trade 4 0 0 4 70", "trade 6 8 1 4 40", "trade 0 12 0 1 60", "deliver 0 0 1 5", "knock", "settle",
    };

    /** Calls that are done in that house, each kind at least once; 0 has 4 of the option 2. */
    private static final String[] DAY_1 = {"trade 0 8 2 5 10", "trade 0 8 0 1 60", "price 1 41"};

    private static final String[] CHANGES = {
        "member 0", "member 1", "client 2", "client 0", "limit 2 77", "limit 3 1", "contract 1 2 33",
        "option 1 0 44 4", "option 0 1 66 4", "scenario", "shift 0 1 3 2", "shift 1 0 20 5", "shift 0 0 4 4",
        "rate 7", "counts 0 3", "counts 1 0", "offset 2", "big 1 3 4", "big 0 9 9", "stress 34", "pay 0 1 9",
        "pay 6 0 4", "take 0 0 5", "take 0 1 1", "give 2 1 6", "give 0 0 1", "endow 1 8", "endow 0 9", "price 0 66",
        "price 2 0", "trade 0 8 0 3 64", "trade 8 12 1 2 39", "call 8", "settle", "correct 0 61", "correct 1 0",
        "sell 4 0 8 55", "sell 6 1 0 43", "tear 0", "tear 1", "move 6 2", "move 7 0", "use 0 2 2 9",
        "deliver 8 1 1 3", "deliver 0 0 1 19",
    };

    private static final String[] AFTERWARDS = {
        "knock", "member 0", "client 2", "contract 0 2 50", "option 0 0 70 8", "scenario", "shift 0 0 2 2",
        "pay 8 0 30", "price 0 50", "price 1 44", "trade 0 8 0 2 48", "trade 8 0 1 2 41", "correct 0 33",
        "correct 1 5", "use 0 2 1 7", "deliver 0 0 1 6", "call 8", "sell 4 0 2 50", "tear 1", "settle", "price 0 61",
        "move 6 0", "settle",
    };

    /** Calls that throw or are refused in that house, each kind at least once. */
    private static final String[] NOT_DONE = {
        "client 3", "client 1", "client 4", "limit 0 0", "limit 0 201", "limit 4 5", "contract 3 0 0",
        "contract 0 6 0", "contract 0 0 100", "option 2 1 5 5", "option 3 1 5 5", "option 0 1 100 5",
        "shift 2 0 0 0", "shift 0 3 0 0", "shift 0 0 21 0", "shift 0 0 0 6", "rate 0", "rate 10", "counts 2 5",
        "counts 0 11", "offset 11", "big 3 5 5", "big 0 201 5", "big 0 5 10", "stress 51", "pay 3 0 5", "pay 0 2 5",
        "pay 0 0 0", "pay 0 0 10000", "take 0 0 9999", "take 0 1 6", "take 6 1 1", "take 8 1 1", "give 1 0 5",
        "give 3 0 5", "give 0 0 0", "endow 2 5", "endow 0 0", "price 1 41", "price 0 100", "price 3 5",
        "trade 0 12 0 9 60", "trade 8 0 0 50 60", "trade 0 0 0 1 60", "trade 4 0 0 1 60", "trade 0 4 0 1 60",
        "trade 0 8 0 51 60", "trade 0 8 3 1 60", "call 0", "call 4", "call 3", "correct 2 50", "correct -1 50",
        "correct 0 100", "sell 0 0 8 50", "sell 4 0 5 50", "sell 4 1 0 50", "sell 4 0 8 100", "tear 2", "tear 3",
        "move 4 0", "move 6 1", "move 6 3", "move 2 2", "move 6 4", "use 0 2 6 0", "use 0 0 1 0", "use 4 2 1 0",
        "use 0 2 1 20", "use 8 2 1 0", "deliver 0 0 4 0", "deliver 0 2 1 0", "deliver 4 0 1 0", "deliver 0 0 1 -1",
        "deliver 8 1 5 0",
    };

    /** What is asked, with each "#" all numbers from 0 to 20; those that throw are asked too. */
    private static final String[] ASKED = {
        "ofMember 0 #", "ofMember 1 #", "ofMember # 5", "ofAccount 0 #", "ofAccount # 6", "position # 0", "loss # 0",
        "ofSeries 2 #", "ofSeries # 7", "moved # 0", "moved 0 #", "calls", "borne 0 #", "total 1 #", "play 0 # 0",
        "play 1 # 1", "play 0 9 #", "ofTrade 0 #", "ofTrade # 4", "book #", "open", "house #", "isSound", "digest",
    };

    private EdgeStepTest() { }

    public static void main(String[] args) {
        C.promise(0, "a call that throws or is REFUSED changes nothing, and no more does one that asks");
        notDone();
        onlyAsked();
        C.promise(28, "all is as it was then");
        undone();
        twoUndone();
        eightUndone();
        C.promise(22, "from the state at MORNING all WORDS are played again in their order");
        correctedFirst();
        correctedOnDay0();
        correctedLast();
        C.end();
    }

    private static void notDone() {
        for (String call : NOT_DONE) {
            Marginhouse x = build(DAY_0, DAY_1);
            String got = Script.answer(x, call);
            C.due(call + " is not done", true, got.startsWith("!") || got.equals("-9"));
            sameIn("behind " + call, build(DAY_0, DAY_1), x);
        }
    }

    private static void onlyAsked() {
        for (String call : ASKED) {
            Marginhouse x = build(DAY_0, DAY_1);
            String before = asked(x);
            for (int number = 0; number <= 20; number++) {
                String each = call.replace("#", String.valueOf(number));
                Script.answer(x, each);
                C.due("all behind " + each, before, asked(x));
            }
            sameIn("behind " + call, build(DAY_0, DAY_1), x);
        }
    }

    private static void undone() {
        for (String change : CHANGES) {
            Marginhouse x = build(DAY_0, DAY_1);
            String got = done(x, change);
            done(x, "undo");
            Marginhouse y = build(DAY_0, DAY_1);
            done(y, "endow 0 1");
            done(y, "undo");
            sameIn("behind undo() of " + change, y, x);
            Marginhouse again = build(DAY_0, DAY_1);
            done(again, change);
            done(again, "undo");
            C.due(change + " again", got, Script.answer(again, change));
        }
    }

    private static void twoUndone() {
        for (String first : CHANGES) {
            for (String second : CHANGES) {
                Marginhouse x = build(DAY_0, DAY_1);
                done(x, first);
                String before = asked(x);
                String got = Script.answer(x, second);
                if (got.startsWith("!") || got.equals("-9") && !second.startsWith("shift")) {
                    C.due(second + " behind " + first + " changes nothing", before, asked(x));
                    continue;
                }
                done(x, "undo");
                Marginhouse y = build(DAY_0, DAY_1);
                done(y, first);
                done(y, "endow 1 1");
                done(y, "undo");
                C.due("all behind undo() of " + second + ", that came behind " + first, asked(y), asked(x));
                done(x, "undo");
                done(y, "undo");
                C.due("all behind undo() of both " + first + " and " + second, asked(y), asked(x));
            }
        }
    }

    /** Eight changes one behind another, and all the way back. */
    private static void eightUndone() {
        for (int from = 0; from < CHANGES.length; from++) {
            Marginhouse x = build(DAY_0, DAY_1);
            List<String> done = new ArrayList<>();
            for (int i = from; i < CHANGES.length && done.size() < 8; i++) {
                String got = Script.answer(x, CHANGES[i]);
                if (!got.startsWith("!") && (!got.equals("-9") || CHANGES[i].startsWith("shift"))) {
                    done.add(CHANGES[i]);
                }
            }
            for (int undone = 1; undone <= done.size(); undone++) {
                done(x, "undo");
                Marginhouse y = build(DAY_0, DAY_1);
                for (String change : done.subList(0, done.size() - undone)) {
                    done(y, change);
                }
                for (int i = 0; i < undone; i++) {
                    done(y, "endow 0 1");
                }
                for (int i = 0; i < undone; i++) {
                    done(y, "undo");
                }
                C.due("all behind " + undone + " undo() of " + done, asked(y), asked(x));
            }
        }
    }

    /** The trade is the first word of the day, each change comes behind it. */
    private static void correctedFirst() {
        for (String change : CHANGES) {
            if (change.startsWith("settle") || change.startsWith("correct")) {
                continue;
            }
            for (int price : new int[] {0, 58, 99}) {
                Marginhouse x = build(DAY_0, DAY_1);
                done(x, change);
                C.due("correct(1, " + price + ") behind " + change, "60", Script.answer(x, "correct 1 " + price));
                Marginhouse y = build(DAY_0, new String[] {DAY_1[0], "trade 0 8 0 1 " + price, DAY_1[2]});
                done(y, change);
                sameIn("behind a corrected trade and " + change, y, x);
            }
        }
    }

    /** All of the first day, with the last of its trades ahead of all that can not be done without members. */
    private static void correctedOnDay0() {
        for (int trade = 0; trade < 3; trade++) {
            String[] corrected = DAY_0.clone();
            int seen = 0;
            for (int i = 0; i < corrected.length; i++) {
                if (corrected[i].startsWith("trade") && seen++ == trade) {
                    corrected[i] = corrected[i].substring(0, corrected[i].lastIndexOf(' ')) + " 53";
                }
            }
            Marginhouse x = build(without(DAY_0, "settle"), new String[0]);
            done(x, "correct " + trade + " 53");
            Marginhouse y = build(without(corrected, "settle"), new String[0]);
            sameIn("behind a corrected trade of the day 0", y, x);
        }
    }

    /** The trade is the last word of the day, behind all changes that can be done. */
    private static void correctedLast() {
        Marginhouse x = build(DAY_0, DAY_1);
        Marginhouse y = build(DAY_0, DAY_1);
        for (String change : CHANGES) {
            if (!change.startsWith("settle") && !change.startsWith("correct")) {
                C.due(change + " in both", Script.answer(y, change), Script.answer(x, change));
            }
        }
        String number = done(x, "trade 8 0 0 2 44");
        done(y, "trade 8 0 0 2 45");
        C.due("correct()", "44", Script.answer(x, "correct " + number + " 45"));
        sameIn("behind the last trade, corrected", y, x);
    }

    private static String[] without(String[] calls, String one) {
        List<String> left = new ArrayList<>();
        for (String call : calls) {
            if (!call.equals(one)) {
                left.add(call);
            }
        }
        return left.toArray(new String[0]);
    }

    private static Marginhouse build(String[] first, String[] then) {
        Marginhouse x = new Marginhouse();
        for (String call : first) {
            done(x, call);
        }
        for (String call : then) {
            done(x, call);
        }
        return x;
    }

    private static String done(Marginhouse x, String call) {
        String got = Script.answer(x, call);
        boolean isDone = !got.startsWith("!") && (!got.equals("-9") || call.startsWith("shift"));
        if (!isDone) {
            C.due(call, "an answer", got);
        }
        return got;
    }

    private static void sameIn(String when, Marginhouse want, Marginhouse got) {
        C.due("all " + when, asked(want), asked(got));
        for (String call : AFTERWARDS) {
            C.due(call + " " + when, Script.answer(want, call), Script.answer(got, call));
            C.due("all behind " + call + " " + when, asked(want), asked(got));
        }
    }

    private static String asked(Marginhouse x) {
        return x.digest() + "/" + x.calls() + "/" + x.open();
    }
}
