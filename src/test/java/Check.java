import java.util.function.Supplier;

/** Counts and prints the answers that are not as due. */
final class Check {
    private final String name;
    private int wrong;
    private int seen;
    private String promise = "";

    Check(String name) {
        this.name = name;
    }

    /** Names the promise that the next checks belong to. */
    void promise(int number, String text) {
        promise = "promise " + number + " (" + text + ")";
    }

    void due(String what, Object want, Object got) {
        seen++;
        if (!want.equals(got)) {
            wrong++;
            System.out.println(name + ", " + promise + ": " + what + " answered " + got + ", due is " + want);
        }
    }

    /** The call throws just this, and changes nothing. */
    void fails(String what, Class<? extends RuntimeException> want, Marginhouse x, Supplier<Object> call) {
        long before = x.digest();
        Object got;
        try {
            got = call.get();
        } catch (RuntimeException e) {
            got = e.getClass();
        }
        due(what, want, got);
        due("digest behind " + what, before, x.digest());
    }

    void noIndex(String what, Marginhouse x, Supplier<Object> call) {
        fails(what, IndexOutOfBoundsException.class, x, call);
    }

    void noValue(String what, Marginhouse x, Supplier<Object> call) {
        fails(what, IllegalArgumentException.class, x, call);
    }

    void noState(String what, Marginhouse x, Supplier<Object> call) {
        fails(what, IllegalStateException.class, x, call);
    }

    /** The call answers -9, and changes nothing. */
    void refused(String what, Marginhouse x, Supplier<Object> call) {
        long before = x.digest();
        due(what, -9, call.get());
        due("digest behind " + what, before, x.digest());
    }

    /** Ends the test: with 1, if an answer was not as due. */
    void end() {
        System.out.println(name + ": " + (seen - wrong) + " of " + seen + " answers are as due");
        if (wrong != 0) {
            System.exit(1);
        }
    }
}
