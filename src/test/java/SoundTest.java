import java.lang.reflect.Field;

/** Promises 44 and 45: isSound and digest. */
public final class SoundTest {
    private static final Check C = new Check("SoundTest");

    private SoundTest() { }

    public static void main(String[] args) {
        isSound();
        isNotSound();
        digest();
        digestTellsChanges();
        C.end();
    }

    private static void isSound() {
        C.promise(44, "isSound");
        Marginhouse x = new Marginhouse();
        C.due("a new house", true, x.isSound());
        Marginhouse y = Houses.withOneOut();
        C.due("in the morning", true, y.isSound());
        y.price(0, 99);
        y.trade(0, 8, 0, 5, 3);
        y.sell(6, 1, 9, 12);
        y.tear(0);
        y.correct(0, 90);
        C.due("behind all kinds of words", true, y.isSound());
        y.settle();
        C.due("behind a ladder", true, y.isSound());
        y.undo();
        y.undo();
        C.due("behind undone steps", true, y.isSound());
        for (int good = 1; good <= 2; good++) {
            Marginhouse z = new Marginhouse();
            int money = good - 1;
            Script.say(z, "3* member 0; contract " + good + " 0 50; trade 0 4 0 1 54; trade 0 8 0 1 56",
                    "give 0 " + money + " 1; endow " + money + " 2; give 1 " + money + " 3",
                    "pay 4 " + money + " 9; take 4 " + money + " 5");
            C.due("with a fund, a part, and something paid out", true, z.isSound());
            z.settle();
            for (int what = 1; what <= 4; what++) {
                C.due("borne", what, z.borne(money, what));
            }
            C.due("with something borne on each rung", true, z.isSound());
            Script.say(z, "give 1 " + money + " 3; endow " + money + " 7; price 0 40");
            C.due("with a fund and a part again", true, z.isSound());
        }
    }

    /** No call can make a house unsound, so the rows inside it are spoilt from outside. */
    private static void isNotSound() {
        C.promise(44, "isSound, of a house that is spoilt");
        if (!hasRows()) {
            System.out.println("SoundTest: the house is held in other rows than this test knows, and is not spoilt");
            return;
        }
        notSound("a balance", "accounts.balance", 0, 1);
        notSound("a balance in money 1", "accounts.balance", 1, 1);
        notSound("the fund", "members.fund", 0, 1);
        notSound("the part", "till.part", 1, 1);
        notSound("paid in", "till.paidIn", 0, 1);
        notSound("paid out", "till.paidOut", 1, 1);
        notSound("a due", "accounts.due", 0, 1);
        notSound("a due in money 1", "accounts.due", 1, -1);
        notSound("a position", "accounts.position", 0, 1);
        notSound("a position in series 1", "accounts.position", 1, 1);
        notSound("what was short", "till.borne", 0, 1);
        notSound("what was borne", "till.borne", 3, 1);
        notSound("what was borne in money 1", "till.borne", 9, 1);
        notSound("a fund below 0", "members.fund", 0, -1, "till.part", 0, 1);
        notSound("a part below 0", "till.part", 1, -1, "members.fund", 1, 1);
        notSound("balances that words do not make", "accounts.balance", 0, -1, "accounts.balance", 2, 1);
        notSound("a due that words do not make", "accounts.due", 0, -1, "accounts.due", 2, 1);
        notSound("positions that words do not make", "accounts.position", 0, -1, "accounts.position", 8, 1);
        notSound("a word that can not be said", "diary.row", 6 * 13 + 1, 19);
        notSound("a word with a wrong value", "diary.row", 6 * 13 + 4, 99);
        notSound("the first balance, that words do not make", "accounts.balance", 0, 1, "till.paidIn", 0, 1);
        // The morning is spoilt alike, so that the words make what is there.
        notSound("a balance that was not paid in", "both accounts.balance", 0, 1);
        notSound("a balance in money 1 that was not paid in", "both accounts.balance", 1, 1);
        notSound("a due of no other one", "both accounts.due", 0, 1);
        notSound("a due of no other one in money 1", "both accounts.due", 1, -1);
        notSound("a position of no other one", "both accounts.position", 0, 1);
        notSound("a position of no other one in series 1", "both accounts.position", 1, -1);
        notSound("a position of no other one in the last account", "both accounts.position", 8 * 9 + 1, 1);
        notSound("a balance below 0", "both accounts.balance", 2, -1, "both accounts.balance", 0, 1);
        notSound("a balance below 0 in money 1", "both accounts.balance", 1, -1, "both accounts.balance", 3, 1);
    }

    /** How the state is held is free, so that a class that holds it otherwise does not fail here. */
    private static boolean hasRows() {
        for (Field field : Marginhouse.class.getDeclaredFields()) {
            if (field.getName().equals("now")) {
                return true;
            }
        }
        return false;
    }

    /** Adds to numbers in rows of the house, each told as the row, the place in it, and how much. */
    private static void notSound(String what, Object... spoilt) {
        Marginhouse x = Houses.withOneOut();
        // The fourteenth word of all.
        x.trade(0, 8, 0, 1, 60);
        C.due("isSound() at first", true, x.isSound());
        for (int i = 0; i < spoilt.length; i += 3) {
            String path = (String) spoilt[i];
            boolean isInBoth = path.startsWith("both ");
            String place = path.substring(isInBoth ? 5 : 0);
            row(x, place)[(Integer) spoilt[i + 1]] += (Integer) spoilt[i + 2];
            if (isInBoth) {
                row(x, "diary.mornings.1." + place)[(Integer) spoilt[i + 1]] += (Integer) spoilt[i + 2];
            }
        }
        C.due("isSound() with " + what, false, x.isSound());
        C.due("digest() with " + what, digestOf(x), x.digest());
    }

    private static int[] row(Marginhouse x, String path) {
        String[] names = path.split("[.]");
        Object at = names[0].equals("diary") ? x : get(x, "now");
        for (String name : names) {
            at = at instanceof Object[] all ? all[Integer.parseInt(name)] : get(at, name);
        }
        return (int[]) at;
    }

    private static Object get(Object of, String name) {
        try {
            Field field = of.getClass().getDeclaredField(name);
            field.setAccessible(true);
            return field.get(of);
        } catch (ReflectiveOperationException e) {
            throw new AssertionError(e);
        }
    }

    /** The sum of the document, of what the face answers. */
    private static long digestOf(Marginhouse x) {
        long d = 6902;
        for (int what = 0; what <= 17; what++) {
            d = d * 31 + x.house(what);
        }
        for (int member = 0; member < x.house(0); member++) {
            for (int what = 0; what <= 8; what++) {
                d = d * 31 + x.ofMember(member, what);
            }
        }
        for (int account = 0; account < 20; account++) {
            d = mixAccount(d, x, account);
        }
        for (int series = 0; series < x.house(3); series++) {
            for (int what = 0; what <= 7; what++) {
                d = d * 31 + x.ofSeries(series, what);
            }
            for (int scenario = 0; scenario < x.house(4); scenario++) {
                d = d * 31 + x.moved(scenario, series);
            }
        }
        d = d * 31 + x.calls().length();
        d = d * 31 + x.open().length();
        for (int money = 0; money < 2; money++) {
            for (int what = 0; what <= 4; what++) {
                d = d * 31 + x.borne(money, what);
            }
            for (int what = 0; what <= 6; what++) {
                d = d * 31 + x.total(money, what);
            }
        }
        for (int scenario = 0; scenario < x.house(4); scenario++) {
            for (int what = 0; what <= 4; what++) {
                d = d * 31 + x.play(scenario, 2, what);
            }
        }
        for (int trade = 0; trade < x.house(6); trade++) {
            for (int what = 0; what <= 4; what++) {
                d = d * 31 + x.ofTrade(trade, what);
            }
        }
        return d * 31 + (x.isSound() ? 1 : 0);
    }

    private static long mixAccount(long begun, Marginhouse x, int account) {
        long d = begun;
        try {
            x.book(account);
        } catch (IndexOutOfBoundsException e) {
            return d;
        }
        for (int what = 0; what <= 9; what++) {
            d = d * 31 + x.ofAccount(account, what);
        }
        for (int series = 0; series < x.house(3); series++) {
            d = d * 31 + x.position(account, series);
        }
        for (int scenario = 0; scenario < x.house(4); scenario++) {
            d = d * 31 + x.loss(account, scenario);
        }
        return d * 31 + x.book(account).length();
    }

    private static void digest() {
        C.promise(45, "digest");
        Marginhouse x = new Marginhouse();
        C.due("a new house", digestOf(x), x.digest());
        Marginhouse y = Houses.withOneOut();
        y.option(0, true, 50, 9);
        y.scenario();
        y.scenario();
        y.shift(0, 0, 5, 2);
        y.shift(1, 2, 20, 0);
        y.price(0, 64);
        y.trade(8, 0, 2, 30, 13);
        y.trade(0, 9, 1, 12, 48);
        y.call(8);
        C.due("a house at work", digestOf(y), y.digest());
        y.settle();
        C.due("the day behind", digestOf(y), y.digest());
        C.due("asking changes nothing", y.digest(), y.digest());
    }

    private static void digestTellsChanges() {
        C.promise(45, "digest, of what has changed");
        Marginhouse x = Houses.withOneOut();
        long before = x.digest();
        x.knock();
        C.due("it is another one behind a knock", true, before != x.digest());
        long knocked = x.digest();
        x.endow(1, 1);
        C.due("and behind one unit", true, knocked != x.digest());
        Marginhouse y = Houses.withOneOut();
        y.knock();
        y.endow(1, 1);
        C.due("the same calls, the same digest", x.digest(), y.digest());
    }
}
