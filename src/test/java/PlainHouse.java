import java.util.ArrayDeque;
import java.util.ArrayList;
import java.util.Deque;
import java.util.List;
import java.util.Map;
import java.util.StringJoiner;
import java.util.TreeMap;

/**
 * The document once more, in its plainest form: lists, maps and whole copies, without a thought of room or speed.
 * ModelTest plays the same calls on it and on Marginhouse.
 */
final class PlainHouse {
    /** A call that is let, but can not be done. */
    static final class Refused extends RuntimeException {
        private static final long serialVersionUID = 1L;
    }

    record Word(String name, long... args) { }

    static final class Member {
        boolean link;
        boolean out;
        long limit = 50;
        long[] fund = new long[2];

        Member copy() {
            Member m = new Member();
            m.link = link;
            m.out = out;
            m.limit = limit;
            m.fund = fund.clone();
            return m;
        }
    }

    static final class Account {
        long[] balance = new long[2];
        long[] due = new long[2];
        Map<Integer, Long> position = new TreeMap<>();
        Long call;

        long at(int series) {
            return position.getOrDefault(series, 0L);
        }

        void add(int series, long lots) {
            position.merge(series, lots, Long::sum);
        }

        Account copy() {
            Account a = new Account();
            a.balance = balance.clone();
            a.due = due.clone();
            a.position = new TreeMap<>(position);
            a.call = call;
            return a;
        }
    }

    static final class Series {
        int kind;
        int good;
        int month;
        long price;
        long strike = -1;
        int contract = -1;
        boolean told = true;

        Series copy() {
            Series s = new Series();
            s.kind = kind;
            s.good = good;
            s.month = month;
            s.price = price;
            s.strike = strike;
            s.contract = contract;
            s.told = told;
            return s;
        }
    }

    static final class State {
        List<Member> members = new ArrayList<>();
        TreeMap<Integer, Account> accounts = new TreeMap<>();
        List<Series> series = new ArrayList<>();
        List<long[][]> scenarios = new ArrayList<>();
        long rate = 2;
        long[] counts = {10, 10};
        long offset = 5;
        long[] big = {20, 20, 20};
        long[] more = {1, 1, 1};
        long stress = 10;
        long[] part = new long[2];
        long[] paidIn = new long[2];
        long[] paidOut = new long[2];
        long[] delivered = new long[3];
        long[][] borne = new long[2][5];
        long day;
        List<Word> words = new ArrayList<>();
        State morning;

        State copy() {
            State s = new State();
            for (Member m : members) {
                s.members.add(m.copy());
            }
            accounts.forEach((number, account) -> s.accounts.put(number, account.copy()));
            for (Series one : series) {
                s.series.add(one.copy());
            }
            for (long[][] scenario : scenarios) {
                s.scenarios.add(new long[][] {scenario[0].clone(), scenario[1].clone(), scenario[2].clone()});
            }
            s.rate = rate;
            s.counts = counts.clone();
            s.offset = offset;
            s.big = big.clone();
            s.more = more.clone();
            s.stress = stress;
            s.part = part.clone();
            s.paidIn = paidIn.clone();
            s.paidOut = paidOut.clone();
            s.delivered = delivered.clone();
            s.borne = new long[][] {borne[0].clone(), borne[1].clone()};
            s.day = day;
            s.words = new ArrayList<>(words);
            s.morning = morning;
            return s;
        }
    }

    private State s = new State();
    private final Deque<State> past = new ArrayDeque<>();
    private long knocks;

    PlainHouse() {
        s.morning = new State();
    }

    // ---- words

    private static void index(boolean ok) {
        if (!ok) {
            throw new IndexOutOfBoundsException();
        }
    }

    private static void value(boolean ok) {
        if (!ok) {
            throw new IllegalArgumentException();
        }
    }

    private static void state(boolean ok) {
        if (!ok) {
            throw new IllegalStateException();
        }
    }

    private static void can(boolean ok) {
        if (!ok) {
            throw new Refused();
        }
    }

    private static boolean in(long n, long least, long most) {
        return least <= n && n <= most;
    }

    private static Member member(State s, long n) {
        index(in(n, 0, s.members.size() - 1));
        return s.members.get((int) n);
    }

    private static Account account(State s, long n) {
        index(in(n, 0, 19) && s.accounts.containsKey((int) n));
        return s.accounts.get((int) n);
    }

    private static Series series(State s, long n) {
        index(in(n, 0, s.series.size() - 1));
        return s.series.get((int) n);
    }

    private static Member memberOf(State s, long account) {
        return s.members.get((int) account / 4);
    }

    private static boolean free(State s, long account) {
        return !memberOf(s, account).out;
    }

    private static int money(Series one) {
        return one.good == 2 ? 1 : 0;
    }

    /** Does a word in a state; throws what is due, Refused for -9. What throws may leave the state half changed. */
    private static long apply(State s, Word w) {
        long[] a = w.args();
        switch (w.name()) {
            case "member": {
                state(s.members.size() < 5);
                Member m = new Member();
                m.link = a[0] == 1;
                s.members.add(m);
                int n = s.members.size() - 1;
                s.accounts.put(4 * n, new Account());
                if (!m.link) {
                    s.accounts.put(4 * n + 1, new Account());
                }
                return n;
            }
            case "client": {
                Member m = member(s, a[0]);
                state(!m.link && !m.out);
                for (int number = (int) a[0] * 4 + 2; number <= a[0] * 4 + 3; number++) {
                    if (!s.accounts.containsKey(number)) {
                        s.accounts.put(number, new Account());
                        return number;
                    }
                }
                throw new Refused();
            }
            case "limit": {
                Member m = member(s, a[0]);
                value(in(a[1], 1, 200));
                long before = m.limit;
                m.limit = a[1];
                return before;
            }
            case "contract": {
                value(in(a[0], 0, 2) && in(a[1], 0, 5) && in(a[2], 0, 99));
                state(s.series.size() < 8);
                Series one = new Series();
                one.good = (int) a[0];
                one.month = (int) a[1];
                one.price = a[2];
                s.series.add(one);
                return s.series.size() - 1;
            }
            case "option": {
                Series contract = series(s, a[0]);
                value(contract.kind == 0 && in(a[2], 0, 99) && in(a[3], 0, 99));
                state(s.series.size() < 8);
                Series one = new Series();
                one.kind = a[1] == 1 ? 1 : 2;
                one.good = contract.good;
                one.month = contract.month;
                one.contract = (int) a[0];
                one.strike = a[2];
                one.price = a[3];
                s.series.add(one);
                return s.series.size() - 1;
            }
            case "scenario":
                state(s.scenarios.size() < 5);
                s.scenarios.add(new long[3][2]);
                return s.scenarios.size() - 1;
            case "shift": {
                index(in(a[0], 0, s.scenarios.size() - 1));
                value(in(a[1], 0, 2) && in(a[2], -20, 20) && in(a[3], -5, 5));
                long[] at = s.scenarios.get((int) a[0])[(int) a[1]];
                long before = at[0];
                at[0] = a[2];
                at[1] = a[3];
                return before;
            }
            case "rate": {
                value(in(a[0], 1, 9));
                long before = s.rate;
                s.rate = a[0];
                return before;
            }
            case "counts": {
                value(in(a[0], 0, 1) && in(a[1], 0, 10));
                long before = s.counts[(int) a[0]];
                s.counts[(int) a[0]] = a[1];
                return before;
            }
            case "offset": {
                value(in(a[0], 0, 10));
                long before = s.offset;
                s.offset = a[0];
                return before;
            }
            case "big": {
                value(in(a[0], 0, 2) && in(a[1], 0, 200) && in(a[2], 0, 9));
                long before = s.big[(int) a[0]];
                s.big[(int) a[0]] = a[1];
                s.more[(int) a[0]] = a[2];
                return before;
            }
            case "stress": {
                value(in(a[0], 0, 50));
                long before = s.stress;
                s.stress = a[0];
                return before;
            }
            case "pay": {
                Account to = account(s, a[0]);
                value(in(a[1], 0, 1) && in(a[2], 1, 9999));
                s.paidIn[(int) a[1]] += a[2];
                return to.balance[(int) a[1]] += a[2];
            }
            case "take": {
                Account from = account(s, a[0]);
                value(in(a[1], 0, 1) && in(a[2], 1, 9999));
                state(free(s, a[0]));
                from.balance[(int) a[1]] -= a[2];
                can(from.balance[(int) a[1]] >= 0 && lacks(s, from) == 0);
                s.paidOut[(int) a[1]] += a[2];
                return from.balance[(int) a[1]];
            }
            case "give": {
                Member m = member(s, a[0]);
                value(in(a[1], 0, 1) && in(a[2], 1, 9999));
                state(!m.link && !m.out);
                s.paidIn[(int) a[1]] += a[2];
                return m.fund[(int) a[1]] += a[2];
            }
            case "endow":
                value(in(a[0], 0, 1) && in(a[1], 1, 9999));
                s.paidIn[(int) a[0]] += a[1];
                return s.part[(int) a[0]] += a[1];
            case "price": {
                Series one = series(s, a[0]);
                value(in(a[1], 0, 99));
                state(!one.told);
                long before = one.price;
                one.told = true;
                reprice(s, (int) a[0], a[1]);
                return before;
            }
            default:
                return applyTrading(s, w.name(), a);
        }
    }

    private static long applyTrading(State s, String name, long[] a) {
        switch (name) {
            case "trade": {
                Account buyer = account(s, a[0]);
                Account seller = account(s, a[1]);
                Series one = series(s, a[2]);
                value(a[0] != a[1] && in(a[3], 1, 50) && in(a[4], 0, 99));
                state(free(s, a[0]) && free(s, a[1]));
                deal(buyer, seller, (int) a[2], one, a[3], a[4]);
                can(Math.abs(buyer.at((int) a[2])) <= memberOf(s, a[0]).limit);
                can(Math.abs(seller.at((int) a[2])) <= memberOf(s, a[1]).limit);
                return s.words.stream().filter(w -> w.name().equals("trade")).count();
            }
            case "call": {
                Account one = account(s, a[0]);
                state(free(s, a[0]));
                long lack = lacks(s, one);
                can(lack > 0);
                callFor(one, s.day);
                return lack;
            }
            case "sell": {
                Account from = account(s, a[0]);
                Account taker = account(s, a[2]);
                Series one = series(s, a[1]);
                value(in(a[3], 0, 99));
                long lots = from.at((int) a[1]);
                state(!free(s, a[0]) && free(s, a[2]) && lots != 0);
                if (lots > 0) {
                    deal(taker, from, (int) a[1], one, lots, a[3]);
                } else {
                    deal(from, taker, (int) a[1], one, -lots, a[3]);
                }
                can(Math.abs(taker.at((int) a[1])) <= memberOf(s, a[2]).limit);
                return Math.abs(lots);
            }
            case "tear": {
                series(s, a[0]);
                int n = (int) a[0];
                long sum = 0;
                boolean any = false;
                for (Map.Entry<Integer, Account> entry : s.accounts.entrySet()) {
                    if (!free(s, entry.getKey()) && entry.getValue().at(n) != 0) {
                        any = true;
                        sum += entry.getValue().at(n);
                        entry.getValue().position.put(n, 0L);
                    }
                }
                can(any);
                List<Account> others = new ArrayList<>();
                List<Long> weights = new ArrayList<>();
                for (Account one : s.accounts.values()) {
                    if (one.at(n) != 0 && Long.signum(one.at(n)) == -Long.signum(sum)) {
                        others.add(one);
                        weights.add(Math.abs(one.at(n)));
                    }
                }
                long[] parts = spread(Math.abs(sum), weights);
                for (int i = 0; i < parts.length; i++) {
                    others.get(i).add(n, sum > 0 ? parts[i] : -parts[i]);
                }
                return Math.abs(sum);
            }
            case "move": {
                Account one = account(s, a[0]);
                Member to = member(s, a[1]);
                state(a[0] % 4 >= 2 && !free(s, a[0]) && !to.out && !to.link);
                int number = (int) a[1] * 4 + 2;
                if (s.accounts.containsKey(number)) {
                    number++;
                }
                can(!s.accounts.containsKey(number));
                one.call = null;
                s.accounts.remove((int) a[0]);
                s.accounts.put(number, one);
                return number;
            }
            case "use":
            case "deliver":
                return assign(s, name.equals("use"), a);
            default:
                throw new AssertionError(name);
        }
    }

    private static long assign(State s, boolean use, long[] a) {
        Account user = account(s, a[0]);
        Series one = series(s, a[1]);
        int n = (int) a[1];
        long lots = a[2];
        value((one.kind != 0) == use && in(lots, 1, 50) && in(a[3], 0, 19));
        state(free(s, a[0]));
        can(use ? user.at(n) >= lots : user.at(n) <= -lots);
        List<Account> row = new ArrayList<>(s.accounts.tailMap((int) a[3], true).values());
        row.addAll(s.accounts.headMap((int) a[3], false).values());
        row.removeIf(other -> use ? other.at(n) >= 0 : other.at(n) <= 0);
        List<Long> weights = new ArrayList<>();
        for (Account other : row) {
            weights.add(Math.abs(other.at(n)));
        }
        long[] parts = spread(lots, weights);
        long count = 0;
        for (int i = 0; i < parts.length; i++) {
            if (use) {
                useFor(s, row.get(i), n, -parts[i]);
            } else {
                deliverFor(one, row.get(i), n, -parts[i]);
            }
            count += parts[i] > 0 ? 1 : 0;
        }
        if (use) {
            useFor(s, user, n, lots);
        } else {
            deliverFor(one, user, n, lots);
            s.delivered[one.good] += lots;
        }
        return count;
    }

    private static void useFor(State s, Account one, int option, long lots) {
        Series o = s.series.get(option);
        Series c = s.series.get(o.contract);
        boolean call = o.kind == 1;
        long w = call ? c.price - o.strike : o.strike - c.price;
        one.add(option, -lots);
        one.add(o.contract, call ? lots : -lots);
        one.due[money(o)] += lots * (w - o.price);
    }

    private static void deliverFor(Series c, Account one, int series, long lots) {
        one.add(series, lots);
        one.due[money(c)] += lots * c.price;
    }

    private static void deal(Account buyer, Account seller, int n, Series one, long lots, long price) {
        buyer.add(n, lots);
        seller.add(n, -lots);
        buyer.due[money(one)] += lots * (one.price - price);
        seller.due[money(one)] -= lots * (one.price - price);
    }

    private static void reprice(State s, int n, long price) {
        Series one = s.series.get(n);
        for (Account account : s.accounts.values()) {
            account.due[money(one)] += account.at(n) * (price - one.price);
        }
        one.price = price;
    }

    private static void callFor(Account one, long day) {
        if (one.call == null || one.call > day) {
            one.call = day;
        }
    }

    static long[] spread(long amount, List<Long> weights) {
        long sum = weights.stream().mapToLong(Long::longValue).sum();
        long[] parts = new long[weights.size()];
        long left = amount;
        for (int i = 0; i < parts.length && sum > 0; i++) {
            parts[i] = Math.floorDiv(amount * weights.get(i), sum);
            left -= parts[i];
        }
        for (int i = 0; i < parts.length && left > 0; i++) {
            if (weights.get(i) > 0) {
                parts[i]++;
                left--;
            }
        }
        return parts;
    }

    // ---- deposits

    private static long worth(Series o, long contractPrice) {
        return Math.max(0, o.kind == 1 ? contractPrice - o.strike : o.strike - contractPrice);
    }

    private static long movedBy(State s, int scenario, int n, long times) {
        Series one = s.series.get(n);
        if (one.kind == 0) {
            long[] at = s.scenarios.get(scenario)[one.good];
            return times * (at[0] + at[1] * one.month);
        }
        long price = s.series.get(one.contract).price;
        return worth(one, price + movedBy(s, scenario, one.contract, times)) - worth(one, price);
    }

    private static long rateOf(State s, int money) {
        return money == 1 ? s.rate : 1;
    }

    private static long lossOf(State s, Account one, int scenario) {
        long sum = 0;
        for (int good = 0; good < 3; good++) {
            long gain = 0;
            for (int n = 0; n < s.series.size(); n++) {
                if (s.series.get(n).good == good) {
                    gain += one.at(n) * movedBy(s, scenario, n, 1);
                }
            }
            gain *= rateOf(s, good == 2 ? 1 : 0);
            sum += gain < 0 ? gain : Math.floorDiv(gain * s.offset, 10L);
        }
        return Math.max(0, -sum);
    }

    private static long addOf(State s, Account one) {
        long sum = 0;
        for (int good = 0; good < 3; good++) {
            long lots = 0;
            for (int n = 0; n < s.series.size(); n++) {
                lots += s.series.get(n).good == good ? Math.abs(one.at(n)) : 0;
            }
            sum += Math.max(0, lots - s.big[good]) * s.more[good] * rateOf(s, good == 2 ? 1 : 0);
        }
        return sum;
    }

    private static long deposit(State s, Account one) {
        long greatest = 0;
        for (int i = 0; i < s.scenarios.size(); i++) {
            greatest = Math.max(greatest, lossOf(s, one, i));
        }
        return greatest + addOf(s, one);
    }

    private static long cover(State s, Account one) {
        long sum = 0;
        for (int money = 0; money < 2; money++) {
            sum += Math.floorDiv(one.balance[money] * rateOf(s, money) * s.counts[money], 10L);
            sum += Math.min(0, one.due[money]) * rateOf(s, money);
        }
        return sum;
    }

    private static long lacks(State s, Account one) {
        return Math.max(0, deposit(s, one) - cover(s, one));
    }

    private static long risk(State s, int member) {
        long sum = 0;
        for (Account one : s.accounts.subMap(member * 4, member * 4 + 4).values()) {
            sum += deposit(s, one);
        }
        return sum;
    }

    private static List<Long> risks(State s) {
        List<Long> risks = new ArrayList<>();
        for (int i = 0; i < s.members.size(); i++) {
            Member m = s.members.get(i);
            risks.add(m.out || m.link ? 0 : risk(s, i));
        }
        return risks;
    }

    private static long target(State s) {
        List<Long> sorted = new ArrayList<>(risks(s));
        sorted.add(0L);
        sorted.add(0L);
        sorted.sort((x, y) -> Long.compare(y, x));
        return -Math.floorDiv(-(sorted.get(0) + sorted.get(1)) * s.stress, 10L);
    }

    // ---- the end of a day

    private static long settle(State s) {
        long goodBefore = s.members.stream().filter(m -> !m.out).count();
        for (Map.Entry<Integer, Account> entry : callsOf(s)) {
            Account one = entry.getValue();
            if (one.call <= s.day) {
                one.call = null;
                if (lacks(s, one) > 0) {
                    memberOf(s, entry.getKey()).out = true;
                }
            }
        }
        long[][] shortBy = new long[2][s.members.size()];
        for (int money = 0; money < 2; money++) {
            for (Account one : s.accounts.values()) {
                payOut(one, one, money);
            }
            for (Map.Entry<Integer, Account> entry : s.accounts.entrySet()) {
                int member = entry.getKey() / 4;
                payOut(s.accounts.get(member * 4), entry.getValue(), money);
                shortBy[money][member] += Math.max(0, -entry.getValue().due[money]);
            }
        }
        for (int member = 0; member < s.members.size(); member++) {
            s.members.get(member).out |= shortBy[0][member] > 0 || shortBy[1][member] > 0;
        }
        for (int money = 0; money < 2; money++) {
            ladder(s, money, shortBy[money]);
        }
        for (Account one : s.accounts.values()) {
            for (int money = 0; money < 2; money++) {
                one.balance[money] += Math.max(0, one.due[money]);
                one.due[money] = 0;
            }
        }
        s.accounts.forEach((number, one) -> {
            if (free(s, number) && lacks(s, one) > 0) {
                callFor(one, s.day + 1);
            }
        });
        s.day++;
        s.series.forEach(one -> one.told = false);
        s.words.clear();
        s.morning = null;
        s.morning = s.copy();
        return goodBefore - s.members.stream().filter(m -> !m.out).count();
    }

    private static void payOut(Account payer, Account debtor, int money) {
        long amount = Math.min(payer.balance[money], Math.max(0, -debtor.due[money]));
        payer.balance[money] -= amount;
        debtor.due[money] += amount;
    }

    private static void ladder(State s, int money, long[] shortBy) {
        long[] borne = new long[5];
        for (int i = 0; i < shortBy.length; i++) {
            Member m = s.members.get(i);
            long own = Math.min(m.fund[money], shortBy[i]);
            m.fund[money] -= own;
            borne[0] += shortBy[i];
            borne[1] += own;
        }
        borne[2] = Math.min(s.part[money], borne[0] - borne[1]);
        s.part[money] -= borne[2];
        List<Long> funds = new ArrayList<>();
        for (Member m : s.members) {
            funds.add(m.out ? 0 : m.fund[money]);
        }
        long all = funds.stream().mapToLong(Long::longValue).sum();
        borne[3] = Math.min(all, borne[0] - borne[1] - borne[2]);
        long[] parts = spread(borne[3], funds);
        for (int i = 0; i < parts.length; i++) {
            s.members.get(i).fund[money] -= parts[i];
        }
        borne[4] = borne[0] - borne[1] - borne[2] - borne[3];
        List<Account> row = new ArrayList<>(s.accounts.values());
        List<Long> gains = new ArrayList<>();
        row.forEach(one -> gains.add(Math.max(0, one.due[money])));
        parts = spread(borne[4], gains);
        for (int i = 0; i < parts.length; i++) {
            row.get(i).due[money] -= parts[i];
        }
        s.borne[money] = borne;
    }

    private static List<Map.Entry<Integer, Account>> callsOf(State s) {
        List<Map.Entry<Integer, Account>> calls = new ArrayList<>(s.accounts.entrySet());
        calls.removeIf(entry -> entry.getValue().call == null);
        calls.sort((x, y) -> x.getValue().call.equals(y.getValue().call)
                ? x.getKey().compareTo(y.getKey()) : x.getValue().call.compareTo(y.getValue().call));
        return calls;
    }

    // ---- the face

    private void step(State next) {
        past.push(s);
        if (past.size() > 8) {
            past.removeLast();
        }
        s = next;
    }

    private long say(Word w) {
        State next = s.copy();
        try {
            long got = apply(next, w);
            next.words.add(w);
            step(next);
            return got;
        } catch (Refused e) {
            return -9;
        }
    }

    private long settleNow() {
        state(s.day < 99);
        State next = s.copy();
        long got = settle(next);
        step(next);
        return got;
    }

    private List<Integer> trades() {
        List<Integer> at = new ArrayList<>();
        for (int i = 0; i < s.words.size(); i++) {
            if (s.words.get(i).name().equals("trade")) {
                at.add(i);
            }
        }
        return at;
    }

    private static State replay(State morning, List<Word> words) {
        State next = morning.copy();
        next.morning = morning;
        for (Word w : words) {
            apply(next, w);
            next.words.add(w);
        }
        return next;
    }

    private long correct(long trade, long price) {
        List<Integer> trades = trades();
        index(in(trade, 0, trades.size() - 1));
        value(in(price, 0, 99));
        int at = trades.get((int) trade);
        Word old = s.words.get(at);
        long[] args = old.args().clone();
        args[4] = price;
        List<Word> words = new ArrayList<>(s.words);
        words.set(at, new Word("trade", args));
        try {
            step(replay(s.morning, words));
            return old.args()[4];
        } catch (Refused | IndexOutOfBoundsException | IllegalArgumentException | IllegalStateException e) {
            return -9;
        }
    }

    private State played(int scenario, long times) {
        State next = s.copy();
        long[] prices = new long[next.series.size()];
        for (int n = 0; n < prices.length; n++) {
            prices[n] = next.series.get(n).price + movedBy(next, scenario, n, times);
        }
        for (int n = 0; n < prices.length; n++) {
            reprice(next, n, prices[n]);
        }
        return next;
    }

    private long play(long scenario, long times, long what) {
        index(in(scenario, 0, s.scenarios.size() - 1));
        value(in(times, 1, 9) && in(what, 0, 4));
        State next = played((int) scenario, times);
        long out = settle(next);
        return switch ((int) what) {
            case 0 -> out;
            case 1 -> next.borne[0][0];
            case 2 -> next.borne[1][0];
            case 3 -> next.borne[0][4] + next.borne[1][4];
            default -> callsOf(next).size();
        };
    }

    private long ofMember(long n, long what) {
        Member m = member(s, n);
        value(in(what, 0, 8));
        long share = spread(target(s), risks(s))[(int) n];
        return switch ((int) what) {
            case 0 -> m.link ? 1 : 0;
            case 1 -> m.out ? 1 : 0;
            case 2 -> m.limit;
            case 3 -> m.fund[0];
            case 4 -> m.fund[1];
            case 5 -> risk(s, (int) n);
            case 6 -> share;
            case 7 -> Math.max(0, share - m.fund[0] - m.fund[1] * s.rate);
            default -> s.accounts.keySet().stream().filter(k -> k / 4 == n).count();
        };
    }

    private long ofAccount(long n, long what) {
        Account one = account(s, n);
        value(in(what, 0, 9));
        if (what < 4) {
            return what < 2 ? one.balance[(int) what] : one.due[(int) what - 2];
        }
        switch ((int) what) {
            case 4:
                return deposit(s, one);
            case 5:
                return cover(s, one);
            case 6:
                return lacks(s, one);
            case 7:
                return addOf(s, one);
            case 8:
                return one.call == null ? -1 : one.call;
            default:
                long worst = -1;
                for (int i = s.scenarios.size() - 1; i >= 0; i--) {
                    long lost = lossOf(s, one, i);
                    if (lost > 0 && (worst < 0 || lost >= lossOf(s, one, (int) worst))) {
                        worst = i;
                    }
                }
                return worst;
        }
    }

    private long ofSeries(long n, long what) {
        Series one = series(s, n);
        value(in(what, 0, 7));
        return switch ((int) what) {
            case 0 -> one.kind;
            case 1 -> one.good;
            case 2 -> one.month;
            case 3 -> one.price;
            case 4 -> one.strike;
            case 5 -> one.contract;
            case 6 -> one.told ? 1 : 0;
            default -> s.accounts.values().stream().mapToLong(a -> Math.max(0, a.at((int) n))).sum();
        };
    }

    private long total(long money, long what) {
        value(in(money, 0, 1) && in(what, 0, 6));
        int m = (int) money;
        return switch ((int) what) {
            case 0 -> s.accounts.values().stream().mapToLong(a -> a.balance[m]).sum();
            case 1 -> s.members.stream().mapToLong(one -> one.fund[m]).sum();
            case 2 -> s.part[m];
            case 3 -> s.paidIn[m];
            case 4 -> s.paidOut[m];
            case 5 -> s.accounts.values().stream().mapToLong(a -> Math.max(0, a.due[m])).sum();
            default -> s.accounts.values().stream().mapToLong(a -> Math.max(0, -a.due[m])).sum();
        };
    }

    private long house(long what) {
        value(in(what, 0, 17));
        if (what >= 13 && what <= 15) {
            return s.delivered[(int) what - 13];
        }
        return switch ((int) what) {
            case 0 -> s.members.size();
            case 1 -> s.members.stream().filter(m -> !m.out).count();
            case 2 -> s.accounts.size();
            case 3 -> s.series.size();
            case 4 -> s.scenarios.size();
            case 5 -> s.day;
            case 6 -> trades().size();
            case 7 -> s.words.size();
            case 8 -> callsOf(s).size();
            case 9 -> s.rate;
            case 10 -> s.offset;
            case 11 -> s.stress;
            case 12 -> target(s);
            case 16 -> past.size();
            default -> knocks;
        };
    }

    private boolean isSound() {
        boolean sound = true;
        for (int m = 0; m < 2; m++) {
            sound &= total(m, 0) + total(m, 1) + total(m, 2) == total(m, 3) - total(m, 4);
            sound &= total(m, 5) == total(m, 6);
            long[] b = s.borne[m];
            sound &= b[0] == b[1] + b[2] + b[3] + b[4];
            sound &= s.part[m] >= 0;
            for (Account one : s.accounts.values()) {
                sound &= one.balance[m] >= 0;
            }
            for (Member one : s.members) {
                sound &= one.fund[m] >= 0;
            }
        }
        State again = replay(s.morning, s.words);
        for (int n = 0; n < s.series.size(); n++) {
            int series = n;
            sound &= s.accounts.values().stream().mapToLong(a -> a.at(series)).sum() == 0;
            for (Map.Entry<Integer, Account> entry : s.accounts.entrySet()) {
                sound &= again.accounts.get(entry.getKey()).at(n) == entry.getValue().at(n);
            }
        }
        for (Map.Entry<Integer, Account> entry : s.accounts.entrySet()) {
            Account one = again.accounts.get(entry.getKey());
            sound &= java.util.Arrays.equals(one.balance, entry.getValue().balance);
            sound &= java.util.Arrays.equals(one.due, entry.getValue().due);
        }
        return sound;
    }

    private String calls() {
        StringJoiner text = new StringJoiner(" ");
        callsOf(s).forEach(entry -> text.add(entry.getKey() + "@" + entry.getValue().call));
        return text.toString();
    }

    private String book(long n) {
        Account one = account(s, n);
        StringJoiner text = new StringJoiner(" ");
        one.position.forEach((series, lots) -> {
            if (lots != 0) {
                text.add(series + ":" + lots);
            }
        });
        return text.toString();
    }

    private String open() {
        StringJoiner text = new StringJoiner(" ");
        s.accounts.forEach((number, one) -> {
            if (!free(s, number) && one.position.values().stream().anyMatch(lots -> lots != 0)) {
                text.add(String.valueOf(number));
            }
        });
        return text.toString();
    }

    private long digest() {
        List<Long> row = new ArrayList<>();
        ask(row, "house", 17);
        for (int m = 0; m < s.members.size(); m++) {
            ask(row, "ofMember", 8, m);
        }
        for (int account : s.accounts.keySet()) {
            ask(row, "ofAccount", 9, account);
            for (int n = 0; n < s.series.size(); n++) {
                row.add(s.accounts.get(account).at(n));
            }
            for (int i = 0; i < s.scenarios.size(); i++) {
                row.add(lossOf(s, s.accounts.get(account), i));
            }
            row.add((long) book(account).length());
        }
        for (int n = 0; n < s.series.size(); n++) {
            ask(row, "ofSeries", 7, n);
            for (int i = 0; i < s.scenarios.size(); i++) {
                row.add(movedBy(s, i, n, 1));
            }
        }
        row.add((long) calls().length());
        row.add((long) open().length());
        for (int m = 0; m < 2; m++) {
            ask(row, "borne", 4, m);
            ask(row, "total", 6, m);
        }
        for (int i = 0; i < s.scenarios.size(); i++) {
            ask(row, "play", 4, i, 2);
        }
        for (int t = 0; t < trades().size(); t++) {
            ask(row, "ofTrade", 4, t);
        }
        row.add(isSound() ? 1L : 0L);
        long d = 6902;
        for (long v : row) {
            d = d * 31 + v;
        }
        return d;
    }

    private void ask(List<Long> row, String name, int most, long... first) {
        for (int what = 0; what <= most; what++) {
            long[] args = java.util.Arrays.copyOf(first, first.length + 1);
            args[first.length] = what;
            row.add((Long) answer(name, args));
        }
    }

    private long ofTrade(long trade, long what) {
        List<Integer> trades = trades();
        index(in(trade, 0, trades.size() - 1));
        value(in(what, 0, 4));
        return s.words.get(trades.get((int) trade)).args()[(int) what];
    }

    /** The answer to a call of the face: a Long, a String, or what it throws. */
    Object answer(String name, long... a) {
        switch (name) {
            case "settle": return settleNow();
            case "correct": return correct(a[0], a[1]);
            case "undo":
                state(!past.isEmpty());
                s = past.pop();
                return (long) past.size();
            case "knock": return ++knocks;
            case "ofMember": return ofMember(a[0], a[1]);
            case "ofAccount": return ofAccount(a[0], a[1]);
            case "position": {
                Account one = account(s, a[0]);
                series(s, a[1]);
                return one.at((int) a[1]);
            }
            case "loss": {
                Account one = account(s, a[0]);
                index(in(a[1], 0, s.scenarios.size() - 1));
                return lossOf(s, one, (int) a[1]);
            }
            case "ofSeries": return ofSeries(a[0], a[1]);
            case "moved":
                index(in(a[0], 0, s.scenarios.size() - 1));
                series(s, a[1]);
                return movedBy(s, (int) a[0], (int) a[1], 1);
            case "calls": return calls();
            case "borne":
                value(in(a[0], 0, 1) && in(a[1], 0, 4));
                return s.borne[(int) a[0]][(int) a[1]];
            case "total": return total(a[0], a[1]);
            case "play": return play(a[0], a[1], a[2]);
            case "ofTrade": return ofTrade(a[0], a[1]);
            case "book": return book(a[0]);
            case "open": return open();
            case "house": return house(a[0]);
            case "isSound": return isSound() ? 1L : 0L;
            case "digest": return digest();
            default: return say(new Word(name, a));
        }
    }
}
