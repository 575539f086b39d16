import java.util.ArrayList;
import java.util.Arrays;
import java.util.List;
import java.util.Map;
import java.util.TreeMap;

/** Plays long runs of calls, ordinary and wild, on Marginhouse and on PlainHouse: each answer must be the same. */
public final class ModelTest {
    private static final int RUNS = 300;
    private static final int CALLS = 512;

    // What a run asks for, and how often: some runs set up a lot, some trade a lot, some default a lot.
    private static final String[] MIX = {
        "member", "client", "limit", "contract", "option", "option", "scenario", "shift", "shift", "rate", "counts",
        "offset", "big", "stress", "pay", "pay", "take", "give", "endow", "price", "price", "price", "price", "price",
        "trade", "trade", "trade", "trade", "trade", "trade", "trade", "trade", "call", "call", "correct",
        "correct", "sell", "sell", "tear", "move", "use", "use", "deliver", "deliver", "undo", "knock",
    };
    private static final String[] BEGINNING = {
        "member", "member", "member", "client", "client", "client", "contract", "contract", "option", "option",
        "scenario", "shift", "scenario", "shift",
    };
    private static final int FIRST_ASKING = Arrays.asList(Calls.NAMES).indexOf("ofMember 2");
    private static final int[] WILD = {
        Integer.MIN_VALUE, Integer.MAX_VALUE, -1, 0, 1, 2, 3, 4, 5, 6, 8, 9, 10, 11, 18, 19, 20, 21, 50, 51, 99, 100,
        200, 201, 9999, 10000, -5, -6, -20, -21,
    };

    private static final Map<String, Integer> DONE = new TreeMap<>();
    private static long seed;
    private static int wildness;
    // How far prices go a day, and how much is paid in: so some runs go on in peace, and others default soon.
    private static int priceSteps;
    private static int mostPaid;

    private ModelTest() { }

    public static void main(String[] args) {
        int runs = args.length > 0 ? Integer.parseInt(args[0]) : RUNS;
        for (int run = 0; run < runs; run++) {
            if (!isRunRight(run)) {
                System.exit(1);
            }
        }
        if (args.length > 1) {
            System.out.println(DONE);
        }
        for (String name : Calls.NAMES) {
            if (!DONE.containsKey(name.substring(0, name.indexOf(' ')))) {
                System.out.println("no run has done " + name);
                System.exit(1);
            }
        }
        System.out.println("ModelTest: " + runs + " runs are as the plain house plays them");
    }

    private static boolean isRunRight(int run) {
        seed = run * 7919L + 17;
        wildness = run % 5 == 4 ? 6 : 60;
        priceSteps = run % 3 == 0 ? 2 : run % 3 == 1 ? 6 : 12;
        mostPaid = run % 2 == 0 ? 9999 : 400;
        Marginhouse x = new Marginhouse();
        PlainHouse plain = new PlainHouse();
        List<String> told = new ArrayList<>();
        int settlingEvery = 6 + random(60);
        for (int i = 0; i < CALLS; i++) {
            String wish = nameOf(i, settlingEvery);
            int poor = run % 3 != 2 && wish.equals("settle") && random(12) > 0 ? firstThatLacks(x) : -1;
            String name = poor >= 0 ? "pay" : wish;
            long[] args = poor >= 0 ? new long[] {poor, random(2), Math.min(9999, x.ofAccount(poor, 6))}
                    : argsOf(x, name);
            Object want = answerOf(() -> plain.answer(name, args));
            Object got = answerOf(() -> Calls.answer(x, name, args));
            told.add(name + Arrays.toString(args) + " " + got);
            if (!want.equals(got)) {
                told.forEach(System.out::println);
                System.out.println("run " + run + ", call " + i + ": " + name + Arrays.toString(args)
                        + " answered " + got + ", due is " + want);
                return false;
            }
            if (!want.equals(-9L) && !(want instanceof Class<?>)) {
                DONE.merge(name, 1, Integer::sum);
            }
        }
        return true;
    }

    private interface Asked {
        Object get();
    }

    private static Object answerOf(Asked asked) {
        try {
            return asked.get();
        } catch (RuntimeException e) {
            return e.getClass();
        }
    }

    private static int random(int below) {
        seed = seed * 6364136223846793005L + 1442695040888963407L;
        return (int) Long.remainderUnsigned(seed >>> 33, below);
    }

    private static String nameOf(int i, int settlingEvery) {
        if (i < BEGINNING.length && random(10) > 0) {
            return BEGINNING[i];
        }
        if (i < 45 && random(3) > 0) {
            return i < 25 ? MIX[random(9)] : "pay";
        }
        if (random(settlingEvery) == 0) {
            return "settle";
        }
        if (random(5) == 0) {
            return random(3) == 0 ? "digest" : firstWord(Calls.NAMES[FIRST_ASKING
                    + random(Calls.NAMES.length - FIRST_ASKING)]);
        }
        return MIX[random(MIX.length)];
    }

    private static String firstWord(String name) {
        return name.substring(0, name.indexOf(' '));
    }

    private static long[] argsOf(Marginhouse x, String name) {
        int count = 0;
        for (String each : Calls.NAMES) {
            if (firstWord(each).equals(name)) {
                count = each.charAt(each.length() - 1) - '0';
            }
        }
        long[] args = new long[count];
        for (int at = 0; at < count; at++) {
            args[at] = random(wildness) == 0 ? WILD[random(WILD.length)] : usual(x, name, at);
        }
        if (name.equals("member") || name.equals("option")) {
            args[name.equals("member") ? 0 : 1] = random(name.equals("member") ? 6 : 2) == 0 ? 1 : 0;
        }
        if ((name.equals("trade") || name.equals("price")) && random(8) > 0) {
            int price = name.equals("trade") ? 4 : 1;
            args[price] = priceNear(x, args[name.equals("trade") ? 2 : 0]);
        }
        if ((name.equals("use") || name.equals("deliver") || name.equals("sell")) && random(3) > 0) {
            aim(x, name, args);
        }
        return args;
    }

    private static int firstThatLacks(Marginhouse x) {
        for (int account = 0; account < 20; account++) {
            try {
                if (x.ofMember(account / 4, 1) == 0 && x.ofAccount(account, 6) > 0) {
                    return account;
                }
            } catch (IndexOutOfBoundsException e) {
                continue;
            }
        }
        return -1;
    }

    /** Looks for an account with a fitting position, as few of all have one. */
    private static void aim(Marginhouse x, String name, long[] args) {
        for (int tries = 0; tries < 60; tries++) {
            int account = account(x, name.equals("sell") ? 1 : 0);
            int series = series(x);
            int lots;
            try {
                lots = x.position(account, series);
            } catch (IndexOutOfBoundsException e) {
                continue;
            }
            boolean fits = name.equals("use") ? lots > 0 && x.ofSeries(series, 0) > 0
                    : name.equals("deliver") ? lots < 0 && x.ofSeries(series, 0) == 0
                    : lots != 0 && x.ofMember(account / 4, 1) == 1;
            if (fits) {
                args[0] = account;
                args[1] = series;
                if (!name.equals("sell")) {
                    args[2] = 1 + random(Math.min(50, Math.abs(lots)));
                }
                return;
            }
        }
    }

    private static int member(Marginhouse x) {
        return random(Math.max(1, x.house(0)));
    }

    private static int account(Marginhouse x) {
        return account(x, random(5) == 0 ? 1 : 0);
    }

    /** An account that is there, mostly, and of a member in this state. */
    private static int account(Marginhouse x, int state) {
        int account = 0;
        for (int tries = 0; tries < 12; tries++) {
            int member = member(x);
            account = member * 4 + random(4);
            if (member < x.house(0) && x.ofMember(member, 8) > account % 4 && x.ofMember(member, 1) == state) {
                break;
            }
        }
        return account;
    }

    private static int series(Marginhouse x) {
        return random(Math.max(1, x.house(3)));
    }

    private static int scenario(Marginhouse x) {
        return random(Math.max(1, x.house(4)));
    }

    private static int priceNear(Marginhouse x, long series) {
        return series >= 0 && series < x.house(3)
                ? Math.max(0, Math.min(99, x.ofSeries((int) series, 3) + random(2 * priceSteps + 1) - priceSteps))
                : random(100);
    }

    private static int usual(Marginhouse x, String name, int at) {
        switch (name + at) {
            case "client0": case "limit0": case "give0": case "move1": case "ofMember0":
                return member(x);
            case "sell0":
                return account(x, 1);
            case "pay0": case "take0": case "trade0": case "trade1": case "call0": case "sell2":
            case "use0": case "deliver0": case "ofAccount0": case "position0": case "loss0": case "book0":
                return account(x);
            case "move0":
                return account(x, 1) / 4 * 4 + 2 + random(2);
            case "price0": case "trade2": case "sell1": case "tear0": case "use1": case "deliver1":
            case "position1": case "ofSeries0": case "moved1": case "option0":
                return series(x);
            case "shift0": case "loss1": case "moved0": case "play0":
                return scenario(x);
            case "contract0": case "shift1": case "big0":
                return random(3);
            case "member0": case "option1":
                return random(2);
            case "counts0": case "pay1": case "take1": case "give1": case "endow0": case "borne0": case "total0":
                return random(2);
            case "contract1":
                return random(6);
            case "shift2":
                return random(41) - 20;
            case "shift3":
                return random(11) - 5;
            case "limit1":
                return random(2) == 0 ? 1 + random(200) : 100 + random(101);
            case "pay2": case "take2":
                return 1 + random(random(3) == 0 ? mostPaid : 300);
            case "give2": case "endow1":
                return 1 + random(60);
            case "price1": case "trade4": case "sell3": case "contract2":
                return priceNear(x, series(x));
            case "use3": case "deliver3":
                return random(20);
            case "use2": case "deliver2":
                return 1 + random(8);
            case "trade3":
                return 1 + random(random(2) == 0 ? 50 : 9);
            case "correct0": case "ofTrade0":
                return random(Math.max(1, x.house(6)));
            case "option2": case "option3": case "correct1":
                return random(100);
            case "rate0": case "play1":
                return 1 + random(9);
            case "counts1": case "offset0": case "ofAccount1":
                return random(10);
            case "big1":
                return random(201);
            case "big2":
                return random(10);
            case "stress0":
                return random(51);
            case "ofMember1":
                return random(9);
            case "ofSeries1":
                return random(8);
            case "borne1": case "ofTrade1": case "play2":
                return random(5);
            case "total1":
                return random(7);
            case "house0":
                return random(18);
            default:
                throw new AssertionError(name + at);
        }
    }
}
