import java.util.ArrayList;
import java.util.List;

/**
 * The arguments of every call at their edges, in a full house, in one with a member that is out, and in the empty one:
 * the smallest and the greatest allowed, those just outside, int's own smallest and greatest, and of several wrong ones
 * the exception that the document names first (an index, then a value, then the state, and -9 behind all of them).
 */
public final class ArgumentTest {
    private static final Check C = new Check("ArgumentTest");

    /** Account 0 has 1 lot of the series 0, 5 of 3 and -5 of 5; all numbers there can be are taken. */
    private static final String[] FULL = {
        "member 0", "member 0", "member 0", "member 0", "member 0",
        "client 0", "client 1", "client 2", "client 3", "client 4",
        "client 0", "client 1", "client 2", "client 3", "client 4",
        "contract 0 0 50", "contract 1 5 0", "contract 2 0 99", "option 0 1 50 5", "option 0 0 50 5",
        "contract 0 1 50", "contract 2 5 50", "option 6 1 0 50",
        "scenario", "scenario", "scenario", "scenario", "scenario",
        "pay 0 0 500", "pay 0 1 500", "settle",
        "trade 0 4 0 1 50", "trade 0 4 3 5 5", "trade 4 0 5 5 50", "price 5 50",
    };

    /**
     * Member 1 (accounts 4 to 7) is out, 3 has all its clients, 4 is a link. 4 has 3 lots of the series 0, 0 has -2;
     * 6 has 4 of 1, 8 has -4 and lacks deposit; 0 has 5 of the option 2, 8 has -5.
     */
    private static final String[] ONE_OUT = {
        "member 0", "member 0", "member 0", "member 0", "member 1",
        "client 0", "client 1", "client 1", "client 3", "client 3", "limit 3 2",
        "contract 0 0 60", "contract 2 0 40", "option 0 1 50 10",
        "scenario", "shift 0 0 -10 0", "shift 0 2 20 0",
        "pay 0 0 100", "pay 4 0 12", "pay 8 1 50", "pay 6 1 50",
        "trade 4 0 0 3 70", "trade 6 8 1 4 40", "settle",
        "trade 0 8 2 5 10", "trade 0 8 0 1 60", "price 1 40",
    };

    /** The call stands only as long as the trade costs more than 50. */
    private static final String[] BOUND_TRADE = {
        "member 0", "member 0", "contract 0 0 50", "trade 0 4 0 1 60", "call 0",
    };

    private static final String[] EMPTY = {};

    /** An argument: whether a wrong one is no index (or else no value), and which are allowed. */
    private record Argument(String fault, long least, long most) { }

    private ArgumentTest() { }

    public static void main(String[] args) {
        membersAndSeries();
        terms();
        theDay();
        whoIsOut();
        asked();
        emptyHouse();
        gaps();
        C.end();
    }

    private static void membersAndSeries() {
        C.promise(2, "member");
        call(FULL, "member", "b", "state 0", "state 1");
        C.promise(3, "client");
        call(FULL, "client", "i:0:4", "refused 0", "refused 4");
        call(ONE_OUT, "client", "i:0:4", "done 0", "done 2", "state 1", "state 4");
        C.promise(4, "limit");
        call(FULL, "limit", "i:0:4 v:1:200", "done 0 1", "done 4 200");
        C.promise(5, "contract");
        call(ONE_OUT, "contract", "v:0:2 v:0:5 v:0:99", "done 0 0 0", "done 2 5 99");
        call(FULL, "contract", "v:0:2 v:0:5 v:0:99", "state 0 0 0", "state 2 5 99");
        C.promise(6, "option");
        call(ONE_OUT, "option", "i:0:2 b v:0:99 v:0:99", "done 0 1 0 0", "done 1 0 99 99", "value 2 1 0 0");
        call(FULL, "option", "i:0:7 b v:0:99 v:0:99", "state 0 1 0 0", "state 6 0 99 99", "value 3 1 0 0",
                "value 7 0 99 99");
        C.promise(7, "scenario");
        call(FULL, "scenario", "", "state");
        call(ONE_OUT, "scenario", "", "done");
    }

    private static void terms() {
        C.promise(8, "shift");
        call(FULL, "shift", "i:0:4 v:0:2 v:-20:20 v:-5:5", "done 0 0 -20 -5", "done 4 2 20 5");
        C.promise(9, "rate");
        call(FULL, "rate", "v:1:9", "done 1");
        C.promise(10, "counts");
        call(FULL, "counts", "v:0:1 v:0:10", "done 0 0", "done 1 10");
        C.promise(11, "offset");
        call(FULL, "offset", "v:0:10", "done 0");
        C.promise(12, "big");
        call(FULL, "big", "v:0:2 v:0:200 v:0:9", "done 0 0 0", "done 2 200 9");
        C.promise(13, "stress");
        call(FULL, "stress", "v:0:50", "done 0");
    }

    private static void theDay() {
        C.promise(14, "pay");
        call(FULL, "pay", "i:0:19 v:0:1 v:1:9999", "done 0 0 1", "done 19 1 9999");
        call(ONE_OUT, "pay", "i:0:16 v:0:1 v:1:9999", "done 4 0 1");
        C.promise(15, "take");
        call(FULL, "take", "i:0:19 v:0:1 v:1:9999", "done 0 0 1", "refused 1 0 1", "refused 0 0 501");
        call(ONE_OUT, "take", "i:0:16 v:0:1 v:1:9999", "state 6 1 1", "state 4 0 9999", "refused 8 1 1");
        C.promise(16, "give");
        call(FULL, "give", "i:0:4 v:0:1 v:1:9999", "done 0 0 1", "done 4 1 9999");
        call(ONE_OUT, "give", "i:0:4 v:0:1 v:1:9999", "state 1 0 1", "state 4 0 1");
        C.promise(17, "endow");
        call(FULL, "endow", "v:0:1 v:1:9999", "done 0 1", "done 1 9999");
        C.promise(18, "price");
        call(FULL, "price", "i:0:7 v:0:99", "done 0 0", "done 7 99", "state 5 50", "state 5 51");
        C.promise(19, "trade");
        String trade = "i:0:19 i:0:19 i:0:7 v:1:50 v:0:99";
        call(FULL, "trade", trade, "done 1 2 0 1 50", "done 19 18 7 50 99", "value 2 2 0 1 50", "refused 0 4 0 50 50",
                "refused 4 0 5 50 50");
        call(ONE_OUT, "trade", "i:0:16 i:0:16 i:0:2 v:1:50 v:0:99", "state 4 8 0 1 50", "state 8 6 0 1 50",
                "state 6 8 1 50 40", "state 12 4 0 3 50", "state 4 12 0 3 50", "value 4 4 0 1 50",
                "refused 12 0 0 3 50", "refused 0 12 0 3 50");
        C.promise(20, "call");
        call(FULL, "call", "i:0:19", "refused 0");
        call(ONE_OUT, "call", "i:0:16", "done 8", "state 4", "refused 1");
        C.promise(22, "correct");
        call(FULL, "correct", "i:0:2 v:0:99", "done 0 0", "done 2 99");
        call(BOUND_TRADE, "correct", "i:0:0 v:0:99", "done 0 51", "refused 0 50");
    }

    private static void whoIsOut() {
        C.promise(23, "sell");
        call(ONE_OUT, "sell", "i:0:16 i:0:2 i:0:16 v:0:99", "done 4 0 8 0", "done 6 1 0 99", "state 0 0 8 50",
                "state 4 0 5 50", "state 4 0 4 50", "state 4 1 0 50", "state 0 0 12 50", "refused 4 0 12 50");
        C.promise(24, "tear");
        call(ONE_OUT, "tear", "i:0:2", "done 0", "done 1", "refused 2");
        C.promise(25, "move");
        call(ONE_OUT, "move", "i:0:16 i:0:4", "done 6 2", "done 7 0", "state 4 2", "state 5 2", "state 6 1",
                "state 6 4", "state 2 2", "state 4 3", "state 0 1", "refused 6 3");
        C.promise(26, "use");
        call(ONE_OUT, "use", "i:0:16 i:0:2 v:1:50 v:0:19", "done 0 2 1 0", "done 0 2 5 19", "value 0 0 1 0",
                "value 4 1 1 0", "state 4 2 1 0", "refused 0 2 6 0", "refused 8 2 1 0", "refused 1 2 1 0");
        C.promise(27, "deliver");
        call(ONE_OUT, "deliver", "i:0:16 i:0:2 v:1:50 v:0:19", "done 0 0 1 0", "done 0 0 2 19", "value 0 2 1 0",
                "value 4 2 1 0", "state 4 0 1 0", "refused 0 0 3 0", "refused 8 1 5 0", "refused 1 0 1 0");
    }

    private static void asked() {
        C.promise(30, "ofMember");
        call(FULL, "ofMember", "i:0:4 v:0:8", "done 0 0", "done 4 8");
        C.promise(31, "ofAccount");
        call(FULL, "ofAccount", "i:0:19 v:0:9", "done 0 0", "done 19 9");
        C.promise(32, "position");
        call(FULL, "position", "i:0:19 i:0:7", "done 0 0", "done 19 7");
        C.promise(33, "loss");
        call(FULL, "loss", "i:0:19 i:0:4", "done 0 0", "done 19 4");
        C.promise(34, "ofSeries");
        call(FULL, "ofSeries", "i:0:7 v:0:7", "done 0 0", "done 7 7");
        C.promise(35, "moved");
        call(FULL, "moved", "i:0:4 i:0:7", "done 0 0", "done 4 7");
        C.promise(37, "borne");
        call(FULL, "borne", "v:0:1 v:0:4", "done 0 0", "done 1 4");
        C.promise(38, "total");
        call(FULL, "total", "v:0:1 v:0:6", "done 0 0", "done 1 6");
        C.promise(39, "play");
        call(FULL, "play", "i:0:4 v:1:9 v:0:4", "done 0 1 0", "done 4 9 4");
        C.promise(40, "ofTrade");
        call(FULL, "ofTrade", "i:0:2 v:0:4", "done 0 0", "done 2 4");
        C.promise(41, "book");
        call(FULL, "book", "i:0:19", "done 0", "done 19");
        C.promise(43, "house");
        call(FULL, "house", "v:0:17", "done 0", "done 17");
    }

    /** Where there is nothing, no index is right, and a wrong value is not looked at yet. */
    private static void emptyHouse() {
        C.promise(1, "a new object");
        String[] calls = {
            "client i", "limit i v:1:200", "option i b v:0:99 v:0:99", "shift i v:0:2 v:-20:20 v:-5:5",
            "pay i v:0:1 v:1:9999", "take i v:0:1 v:1:9999", "give i v:0:1 v:1:9999", "price i v:0:99",
            "trade i i i v:1:50 v:0:99", "call i", "correct i v:0:99", "sell i i i v:0:99", "tear i", "move i i",
            "use i i v:1:50 v:0:19", "deliver i i v:1:50 v:0:19", "ofMember i v:0:8", "ofAccount i v:0:9",
            "position i i", "loss i i", "ofSeries i v:0:7", "moved i i", "play i v:1:9 v:0:4", "ofTrade i v:0:4",
            "book i",
        };
        for (String call : calls) {
            String name = call.substring(0, call.indexOf(' '));
            String kinds = call.substring(name.length() + 1).replaceAll("\\bi\\b", "i:0:0");
            StringBuilder least = new StringBuilder("index");
            for (Argument argument : argumentsOf(kinds)) {
                least.append(' ').append(argument == null ? 0 : argument.least);
            }
            call(EMPTY, name, kinds, least.toString());
        }
        call(EMPTY, "contract", "v:0:2 v:0:5 v:0:99", "done 0 0 0");
        call(EMPTY, "big", "v:0:2 v:0:200 v:0:9", "done 0 0 0");
        call(EMPTY, "endow", "v:0:1 v:1:9999", "done 0 1");
        call(EMPTY, "borne", "v:0:1 v:0:4", "done 0 0");
        call(EMPTY, "total", "v:0:1 v:0:6", "done 0 0");
        call(EMPTY, "house", "v:0:17", "done 0");
        call(EMPTY, "undo", "", "state");
        call(EMPTY, "settle", "", "done");
    }

    /** Numbers between others that are no account, and those behind the last one. */
    private static void gaps() {
        C.promise(2, "slots that have not come");
        String[] calls = {"pay A 0 5", "take A 0 5", "trade A 0 0 1 50", "trade 0 A 0 1 50", "call A", "sell A 0 0 50",
            "sell 4 0 A 50", "move A 2", "use A 2 1 0", "deliver A 0 1 0", "ofAccount A 0", "position A 0",
            "loss A 0", "book A"};
        // Slot 3 of member 0, 2 and 3 of member 2, all but the own one of the link 4.
        for (int none : new int[] {3, 10, 11, 17, 18, 19, 20}) {
            Marginhouse x = build(ONE_OUT);
            long before = x.digest();
            for (String call : calls) {
                answers(x, call.replace(" A", " " + none), "! index");
            }
            C.due("digest behind calls with " + none, before, x.digest());
        }
    }

    /** Looks at a call from each base (its arguments, and what they lead to), with all kinds of wrong arguments. */
    private static void call(String[] house, String name, String kinds, String... bases) {
        List<Argument> arguments = argumentsOf(kinds);
        for (String base : bases) {
            String[] words = base.split(" ");
            String leadsTo = words[0];
            String[] args = new String[words.length - 1];
            System.arraycopy(words, 1, args, 0, args.length);
            asBase(build(house), said(name, args), leadsTo);
            atEdges(house, name, args, arguments, leadsTo);
            severalWrong(house, name, args, arguments, leadsTo);
        }
    }

    private static void asBase(Marginhouse x, String call, String leadsTo) {
        long before = x.digest();
        String got = Script.answer(x, call);
        String want = switch (leadsTo) {
            case "done" -> got.startsWith("!") || got.equals("-9") ? "an answer" : got;
            case "refused" -> "-9";
            default -> "! " + leadsTo;
        };
        C.due(call, want, got);
        if (!leadsTo.equals("done")) {
            C.due("digest behind " + call, before, x.digest());
        }
    }

    /** One argument at a time: what is allowed leads to no other exception than before, what is not has its own. */
    private static void atEdges(String[] house, String name, String[] base, List<Argument> arguments, String leadsTo) {
        for (int at = 0; at < base.length; at++) {
            Argument argument = arguments.get(at);
            if (argument == null) {
                continue;
            }
            for (long allowed : new long[] {argument.least, argument.most}) {
                if (!leadsTo.equals("index") && !leadsTo.equals("value")) {
                    String call = said(name, with(base, at, allowed));
                    String got = Script.answer(build(house), call);
                    boolean isLet = !got.equals("! " + argument.fault);
                    C.due(call + ", that answered " + got + ", is let", true, isLet);
                }
            }
            Marginhouse x = build(house);
            long before = x.digest();
            for (long wrong : wrongOnes(argument)) {
                answers(x, said(name, with(base, at, wrong)), "! " + first(leadsTo, argument.fault));
            }
            C.due("digest behind wrong arguments of " + name, before, x.digest());
        }
    }

    /** Each choice of wrong arguments, just outside and far away. */
    private static void severalWrong(String[] house, String name, String[] base, List<Argument> arguments,
            String leadsTo) {
        for (int far = 0; far < 4; far++) {
            Marginhouse x = build(house);
            long before = x.digest();
            for (int choice = 1; choice < 1 << base.length; choice++) {
                String[] args = base.clone();
                String want = leadsTo;
                for (int at = 0; at < base.length; at++) {
                    Argument argument = arguments.get(at);
                    if ((choice >> at & 1) == 1 && argument != null) {
                        args[at] = String.valueOf(wrongOnes(argument)[far]);
                        want = first(want, argument.fault);
                    }
                }
                if (!want.equals("done") && !want.equals("refused")) {
                    answers(x, said(name, args), "! " + want);
                }
            }
            C.due("digest behind wrong arguments of " + name, before, x.digest());
        }
    }

    private static String first(String one, String other) {
        for (String each : new String[] {"index", "value", "state"}) {
            if (one.equals(each) || other.equals(each)) {
                return each;
            }
        }
        return one;
    }

    private static long[] wrongOnes(Argument argument) {
        return new long[] {argument.least - 1, argument.most + 1, Integer.MIN_VALUE, Integer.MAX_VALUE};
    }

    private static void answers(Marginhouse x, String call, String want) {
        C.due(call, want, Script.answer(x, call));
    }

    private static Marginhouse build(String[] house) {
        Marginhouse x = new Marginhouse();
        for (String call : house) {
            String got = Script.answer(x, call);
            C.due(call + " is done", true, !got.startsWith("!") && !got.equals("-9"));
        }
        return x;
    }

    private static String[] with(String[] base, int at, long value) {
        String[] args = base.clone();
        args[at] = String.valueOf(value);
        return args;
    }

    private static String said(String name, String[] args) {
        return args.length == 0 ? name : name + " " + String.join(" ", args);
    }

    /** Kinds: "i:0:4" an index, "v:1:200" a value, each with the least and the most; "b" is true or false. */
    private static List<Argument> argumentsOf(String kinds) {
        List<Argument> arguments = new ArrayList<>();
        for (String kind : kinds.split(" ")) {
            String[] parts = kind.split(":");
            if (parts.length == 3) {
                arguments.add(new Argument(parts[0].equals("i") ? "index" : "value", Long.parseLong(parts[1]),
                        Long.parseLong(parts[2])));
            } else if (kind.equals("b")) {
                arguments.add(null);
            }
        }
        return arguments;
    }
}
