import java.util.ArrayList;
import java.util.List;

/**
 * Runs that are told as text. A line has a call with its arguments, and behind "=" the answer that is due, or behind
 * "!" which exception is: index, value or state. Without both the call has to be done. "99* settle" is said 99 times,
 * and ";" stands between calls in one line.
 *
 * <p>Behind each call that is refused or throws, the house has to answer as one to which it was never said: all that is
 * asked there and then, and the changing calls of TAIL behind the run.
 */
final class Script {
    private static final int MOST_CALLS = 512;
    private static final String[] TAIL = {
        "knock", "member 0", "client 0", "pay 0 0 7", "limit 0 60", "scenario", "contract 0 1 50", "price 0 12",
        "trade 0 4 0 1 50", "trade 4 0 0 2 40", "take 0 0 1", "correct 0 33", "call 4", "tear 0", "settle", "house 7",
        "price 0 50", "undo", "undo", "undo", "undo", "undo", "undo", "undo", "undo", "undo", "ofTrade 0 4", "house 7",
    };

    private record Line(String call, String sign, String due) { }

    private final String name;
    private String sentence = "";
    private int seen;
    private int wrong;

    Script(String name) {
        this.name = name;
    }

    /** Names the sentence of the document that the next runs belong to. */
    void sentence(String text) {
        sentence = text;
    }

    void run(String... lines) {
        Marginhouse x = new Marginhouse();
        Marginhouse untouched = new Marginhouse();
        int calls = 0;
        boolean isAnyLet = false;
        for (Line line : linesOf(lines)) {
            String got = answer(x, line.call);
            check(line, got);
            calls++;
            if (isDone(line.call, got)) {
                answer(untouched, line.call);
            } else {
                isAnyLet = true;
                calls += 3;
                same("behind " + line.call, asked(untouched), asked(x));
            }
        }
        if (isAnyLet) {
            for (String call : TAIL) {
                same(call + " behind the run", answer(untouched, call), answer(x, call));
                calls++;
            }
            calls += 3;
            same("behind all", asked(untouched), asked(x));
        }
        if (calls > MOST_CALLS) {
            fault("the run has " + calls + " calls");
        }
    }

    /** Says calls that are to be done, to a house that a test looks at by itself. */
    static void say(Marginhouse x, String... lines) {
        for (Line line : linesOf(lines)) {
            String got = answer(x, line.call);
            if (!isDone(line.call, got)) {
                throw new AssertionError(line.call + " answered " + got);
            }
        }
    }

    private static List<Line> linesOf(String... texts) {
        List<Line> lines = new ArrayList<>();
        for (String text : texts) {
            for (String part : text.split(";")) {
                String call = part.trim();
                int times = 1;
                int star = call.indexOf('*');
                if (star >= 0) {
                    times = Integer.parseInt(call.substring(0, star).trim());
                    call = call.substring(star + 1).trim();
                }
                for (int i = 0; i < times; i++) {
                    lines.add(lineOf(call));
                }
            }
        }
        return lines;
    }

    private static Line lineOf(String call) {
        for (String sign : new String[] {"=", "!"}) {
            int at = call.indexOf(sign);
            if (at >= 0) {
                return new Line(call.substring(0, at).trim(), sign, call.substring(at + 1).trim());
            }
        }
        return new Line(call, "", "");
    }

    private void check(Line line, String got) {
        if (line.sign.isEmpty()) {
            seen++;
            if (!isDone(line.call, got)) {
                fault(line.call + " answered " + got + ", but has to be done");
            }
        } else {
            same(line.call, line.sign.equals("=") ? line.due : "! " + line.due, got);
        }
    }

    private void same(String what, String want, String got) {
        seen++;
        if (!want.equals(got)) {
            fault(what + " answered " + got + ", due is " + want);
        }
    }

    private void fault(String text) {
        wrong++;
        System.out.println(name + ", " + sentence + ": " + text);
    }

    /** A shift may truly be -9 from before. */
    private static boolean isDone(String call, String got) {
        return !got.startsWith("!") && (!got.equals("-9") || call.startsWith("shift") || call.startsWith("moved"));
    }

    /** The digest has all that can be asked, but the texts only by their lengths. */
    private static String asked(Marginhouse x) {
        return x.digest() + "/" + x.calls() + "/" + x.open();
    }

    static String answer(Marginhouse x, String call) {
        String[] words = call.split(" +");
        long[] args = new long[words.length - 1];
        for (int i = 0; i < args.length; i++) {
            args[i] = switch (words[i + 1]) {
                case "min" -> Integer.MIN_VALUE;
                case "max" -> Integer.MAX_VALUE;
                default -> Long.parseLong(words[i + 1]);
            };
        }
        try {
            return String.valueOf(Calls.answer(x, words[0], args));
        } catch (RuntimeException e) {
            return "! " + nameOf(e);
        }
    }

    private static String nameOf(RuntimeException e) {
        if (e.getClass() == IndexOutOfBoundsException.class) {
            return "index";
        }
        if (e.getClass() == IllegalArgumentException.class) {
            return "value";
        }
        return e.getClass() == IllegalStateException.class ? "state" : e.toString();
    }

    /** Ends the test: with 1, if an answer was not as due. */
    void end() {
        System.out.println(name + ": " + (seen - wrong) + " of " + seen + " answers are as due");
        if (wrong != 0) {
            System.exit(1);
        }
    }
}
