/** Calls of the face by name, with boolean arguments and answers as 1 or 0. */
final class Calls {
    private Calls() { }

    /** The names of all calls, each with the number of its arguments. */
    static final String[] NAMES = {
        "member 1", "client 1", "limit 2", "contract 3", "option 4", "scenario 0", "shift 4", "rate 1", "counts 2",
        "offset 1", "big 3", "stress 1", "pay 3", "take 3", "give 3", "endow 2", "price 2", "trade 5", "call 1",
        "settle 0", "correct 2", "sell 4", "tear 1", "move 2", "use 4", "deliver 4", "undo 0", "knock 0",
        "ofMember 2", "ofAccount 2", "position 2", "loss 2", "ofSeries 2", "moved 2", "calls 0", "borne 2",
        "total 2", "play 3", "ofTrade 2", "book 1", "open 0", "house 1", "isSound 0", "digest 0",
    };

    static Object answer(Marginhouse x, String name, long... args) {
        int[] a = new int[args.length];
        for (int i = 0; i < a.length; i++) {
            a[i] = (int) args[i];
        }
        return switch (name) {
            case "calls" -> x.calls();
            case "book" -> x.book(a[0]);
            case "open" -> x.open();
            case "digest" -> x.digest();
            case "isSound" -> x.isSound() ? 1L : 0L;
            default -> (long) number(x, name, a);
        };
    }

    private static int number(Marginhouse x, String name, int[] a) {
        return switch (name) {
            case "member" -> x.member(a[0] == 1);
            case "client" -> x.client(a[0]);
            case "limit" -> x.limit(a[0], a[1]);
            case "contract" -> x.contract(a[0], a[1], a[2]);
            case "option" -> x.option(a[0], a[1] == 1, a[2], a[3]);
            case "scenario" -> x.scenario();
            case "shift" -> x.shift(a[0], a[1], a[2], a[3]);
            case "rate" -> x.rate(a[0]);
            case "counts" -> x.counts(a[0], a[1]);
            case "offset" -> x.offset(a[0]);
            case "big" -> x.big(a[0], a[1], a[2]);
            case "stress" -> x.stress(a[0]);
            case "pay" -> x.pay(a[0], a[1], a[2]);
            case "take" -> x.take(a[0], a[1], a[2]);
            case "give" -> x.give(a[0], a[1], a[2]);
            case "endow" -> x.endow(a[0], a[1]);
            case "price" -> x.price(a[0], a[1]);
            case "trade" -> x.trade(a[0], a[1], a[2], a[3], a[4]);
            case "call" -> x.call(a[0]);
            case "settle" -> x.settle();
            case "correct" -> x.correct(a[0], a[1]);
            case "sell" -> x.sell(a[0], a[1], a[2], a[3]);
            case "tear" -> x.tear(a[0]);
            case "move" -> x.move(a[0], a[1]);
            case "use" -> x.use(a[0], a[1], a[2], a[3]);
            case "deliver" -> x.deliver(a[0], a[1], a[2], a[3]);
            case "undo" -> x.undo();
            case "knock" -> x.knock();
            case "ofMember" -> x.ofMember(a[0], a[1]);
            case "ofAccount" -> x.ofAccount(a[0], a[1]);
            case "position" -> x.position(a[0], a[1]);
            case "loss" -> x.loss(a[0], a[1]);
            case "ofSeries" -> x.ofSeries(a[0], a[1]);
            case "moved" -> x.moved(a[0], a[1]);
            case "borne" -> x.borne(a[0], a[1]);
            case "total" -> x.total(a[0], a[1]);
            case "play" -> x.play(a[0], a[1], a[2]);
            case "ofTrade" -> x.ofTrade(a[0], a[1]);
            case "house" -> x.house(a[0]);
            default -> throw new AssertionError(name);
        };
    }
}
