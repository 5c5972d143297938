import java.util.function.LongSupplier;

/** Counts the answers of a test that are not as due, and ends the test with their number told. */
final class Check {
    static final String INDEX = "IndexOutOfBoundsException";
    static final String ARGUMENT = "IllegalArgumentException";
    static final String STATE = "IllegalStateException";

    private int wrong;
    private int asked;

    void equal(String what, long got, long due) {
        asked++;
        if (got != due) {
            wrong++;
            System.out.println(what + " answered " + got + ", due is " + due);
        }
    }

    /** The call must throw exactly this exception, and the object must be as before. */
    void refused(DeafChain chain, String what, LongSupplier call, String due) {
        long before = chain.digest();
        equalText(what, outcome(call), "throws." + due);
        equal(what + ", the digest after it,", chain.digest(), before);
    }

    void equalText(String what, String got, String due) {
        asked++;
        if (!got.equals(due)) {
            wrong++;
            System.out.println(what + " answered " + got + ", due is " + due);
        }
    }

    static String outcome(LongSupplier call) {
        try {
            return Long.toString(call.getAsLong());
        } catch (RuntimeException thrown) {
            return "throws." + thrown.getClass().getSimpleName();
        }
    }

    /** Types a text into a buffer that is cleared first. */
    static void type(DeafChain chain, String text) {
        chain.clearBuffer();
        for (int index = 0; index < text.length(); index++) {
            chain.append(text.charAt(index));
        }
    }

    static int obey(DeafChain chain, String text) {
        type(chain, text);
        return chain.obey();
    }

    static String told(DeafChain chain, int back) {
        StringBuilder text = new StringBuilder();
        int code = chain.told(back, 0);
        while (code != DeafChain.NONE) {
            text.append((char) code);
            code = chain.told(back, text.length());
        }
        return text.toString();
    }

    void end() {
        System.out.println(asked + " answers, " + wrong + " of them wrong");
        if (wrong != 0) {
            System.exit(1);
        }
    }
}
