import java.lang.reflect.Field;

/** Promises 44 and 45: isSound and digest. */
public final class SoundTest {
    private static final Check C = new Check("SoundTest");

    private SoundTest() { }

    public static void main(String[] args) {
        isSound();
        isNotSound();
        digest();
        digestTellsChanges();
        C.end();
    }

    private static void isSound() {
        C.promise(44, "isSound");
        Marginhouse x = new Marginhouse();
        C.due("a new house", true, x.isSound());
        Marginhouse y = Houses.withOneOut();
        C.due("in the morning", true, y.isSound());
        y.price(0, 99);
        y.trade(0, 8, 0, 5, 3);
        y.sell(6, 1, 9, 12);
        y.tear(0);
        y.correct(0, 90);
        C.due("behind all kinds of words", true, y.isSound());
        y.settle();
        C.due("behind a ladder", true, y.isSound());
        y.undo();
        y.undo();
        C.due("behind undone steps", true, y.isSound());
    }

    /** No call can make a house unsound, so the rows inside it are spoilt from outside. */
    private static void isNotSound() {
        C.promise(44, "isSound, of a house that is spoilt");
        notSound("a balance", "accounts.balance", 0, 1);
        notSound("a balance in money 1", "accounts.balance", 1, 1);
        notSound("the fund", "members.fund", 0, 1);
        notSound("the part", "till.part", 1, 1);
        notSound("paid in", "till.paidIn", 0, 1);
        notSound("paid out", "till.paidOut", 1, 1);
        notSound("a due", "accounts.due", 0, 1);
        notSound("a due in money 1", "accounts.due", 1, -1);
        notSound("a position", "accounts.position", 0, 1);
        notSound("a position in series 1", "accounts.position", 1, 1);
        notSound("what was short", "till.borne", 0, 1);
        notSound("what was borne", "till.borne", 3, 1);
        notSound("what was borne in money 1", "till.borne", 9, 1);
        notSound("a fund below 0", "members.fund", 0, -1, "till.part", 0, 1);
        notSound("a part below 0", "till.part", 1, -1, "members.fund", 1, 1);
        notSound("balances that words do not make", "accounts.balance", 0, -1, "accounts.balance", 2, 1);
        notSound("a due that words do not make", "accounts.due", 0, -1, "accounts.due", 2, 1);
        notSound("positions that words do not make", "accounts.position", 0, -1, "accounts.position", 8, 1);
        notSound("a word that can not be said", "diary.row", 6 * 13 + 1, 19);
    }

    /** Adds to numbers in rows of the house, each told as the row, the place in it, and how much. */
    private static void notSound(String what, Object... spoilt) {
        Marginhouse x = Houses.withOneOut();
        // The fourteenth word of all.
        x.trade(0, 8, 0, 1, 60);
        C.due("isSound() at first", true, x.isSound());
        for (int i = 0; i < spoilt.length; i += 3) {
            row(x, (String) spoilt[i])[(Integer) spoilt[i + 1]] += (Integer) spoilt[i + 2];
        }
        C.due("isSound() with " + what, false, x.isSound());
    }

    private static int[] row(Marginhouse x, String path) {
        String[] names = path.split("[.]");
        Object at = names[0].equals("diary") ? x : get(x, "now");
        for (String name : names) {
            at = get(at, name);
        }
        return (int[]) at;
    }

    private static Object get(Object of, String name) {
        try {
            Field field = of.getClass().getDeclaredField(name);
            field.setAccessible(true);
            return field.get(of);
        } catch (ReflectiveOperationException e) {
            throw new AssertionError(e);
        }
    }

    /** The sum of the document, of what the face answers. */
    private static long digestOf(Marginhouse x) {
        long d = 6902;
        for (int what = 0; what <= 17; what++) {
            d = d * 31 + x.house(what);
        }
        for (int member = 0; member < x.house(0); member++) {
            for (int what = 0; what <= 8; what++) {
                d = d * 31 + x.ofMember(member, what);
            }
        }
        for (int account = 0; account < 20; account++) {
            d = mixAccount(d, x, account);
        }
        for (int series = 0; series < x.house(3); series++) {
            for (int what = 0; what <= 7; what++) {
                d = d * 31 + x.ofSeries(series, what);
            }
            for (int scenario = 0; scenario < x.house(4); scenario++) {
                d = d * 31 + x.moved(scenario, series);
            }
        }
        d = d * 31 + x.calls().length();
        d = d * 31 + x.open().length();
        for (int money = 0; money < 2; money++) {
            for (int what = 0; what <= 4; what++) {
                d = d * 31 + x.borne(money, what);
            }
            for (int what = 0; what <= 6; what++) {
                d = d * 31 + x.total(money, what);
            }
        }
        for (int scenario = 0; scenario < x.house(4); scenario++) {
            for (int what = 0; what <= 4; what++) {
                d = d * 31 + x.play(scenario, 2, what);
            }
        }
        for (int trade = 0; trade < x.house(6); trade++) {
            for (int what = 0; what <= 4; what++) {
                d = d * 31 + x.ofTrade(trade, what);
            }
        }
        return d * 31 + (x.isSound() ? 1 : 0);
    }

    private static long mixAccount(long begun, Marginhouse x, int account) {
        long d = begun;
        try {
            x.book(account);
        } catch (IndexOutOfBoundsException e) {
            return d;
        }
        for (int what = 0; what <= 9; what++) {
            d = d * 31 + x.ofAccount(account, what);
        }
        for (int series = 0; series < x.house(3); series++) {
            d = d * 31 + x.position(account, series);
        }
        for (int scenario = 0; scenario < x.house(4); scenario++) {
            d = d * 31 + x.loss(account, scenario);
        }
        return d * 31 + x.book(account).length();
    }

    private static void digest() {
        C.promise(45, "digest");
        Marginhouse x = new Marginhouse();
        C.due("a new house", digestOf(x), x.digest());
        Marginhouse y = Houses.withOneOut();
        y.option(0, true, 50, 9);
        y.scenario();
        y.scenario();
        y.shift(0, 0, 5, 2);
        y.shift(1, 2, 20, 0);
        y.price(0, 64);
        y.trade(8, 0, 2, 30, 13);
        y.trade(0, 9, 1, 12, 48);
        y.call(8);
        C.due("a house at work", digestOf(y), y.digest());
        y.settle();
        C.due("the day behind", digestOf(y), y.digest());
        C.due("asking changes nothing", y.digest(), y.digest());
    }

    private static void digestTellsChanges() {
        C.promise(45, "digest, of what has changed");
        Marginhouse x = Houses.withOneOut();
        long before = x.digest();
        x.knock();
        C.due("it is another one behind a knock", true, before != x.digest());
        long knocked = x.digest();
        x.endow(1, 1);
        C.due("and behind one unit", true, knocked != x.digest());
        Marginhouse y = Houses.withOneOut();
        y.knock();
        y.endow(1, 1);
        C.due("the same calls, the same digest", x.digest(), y.digest());
    }
}
