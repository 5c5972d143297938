import java.util.function.LongSupplier;
import java.util.function.Supplier;
import java.util.function.ToLongFunction;

/** Counts the answers of a test that are not as due, and ends the test with their number told. */
final class Check {
    static final String INDEX = "IndexOutOfBoundsException";
    static final String ARGUMENT = "IllegalArgumentException";
    static final String STATE = "IllegalStateException";

    private int wrong;
    private int asked;
    private String sentence = "";

    /** The test of one sentence of the document, which is told with each wrong answer; a test that asks nothing is wrong. */
    void holds(String sentence, Runnable test) {
        int before = asked;
        this.sentence = "\"" + sentence + "\": ";
        try {
            test.run();
        } catch (RuntimeException thrown) {
            tellWrong("the test threw " + thrown + " at " + thrown.getStackTrace()[0]);
        }
        if (asked == before) {
            tellWrong("nothing was asked");
        }
        this.sentence = "";
    }

    private void tellWrong(String what) {
        wrong++;
        System.out.println(sentence + what);
    }

    void equal(String what, long got, long due) {
        asked++;
        if (got != due) {
            tellWrong(what + " answered " + got + ", due is " + due);
        }
    }

    /** The call must throw exactly this exception, and the object must be as before. */
    void refused(DeafChain chain, String what, LongSupplier call, String due) {
        long before = chain.digest();
        equalText(what, outcome(call), "throws." + due);
        equal(what + ", the digest after it,", chain.digest(), before);
    }

    /** As above, and all that can be told of the object behind the call must be as on one that was not asked. */
    void refused(Supplier<DeafChain> scene, String what, ToLongFunction<DeafChain> call, String due) {
        DeafChain asked = scene.get();
        equalText(what, outcome(() -> call.applyAsLong(asked)), "throws." + due);
        equalText(what + ", all that can be told after it,", Scenes.tellAll(asked), Scenes.tellAll(scene.get()));
    }

    void equalText(String what, String got, String due) {
        asked++;
        if (!got.equals(due)) {
            tellWrong(what + " answered " + got + ", due is " + due);
        }
    }

    void lostIs(DeafChain chain, int place, int word, int times) {
        equal("lost(" + place + ", 0)", chain.lost(place, 0), word);
        equal("lost(" + place + ", 1)", chain.lost(place, 1), times);
    }

    static String outcome(LongSupplier call) {
        try {
            return Long.toString(call.getAsLong());
        } catch (RuntimeException thrown) {
            return "throws." + thrown.getClass().getSimpleName();
        }
    }

    /** Types a text into a buffer that is cleared first. */
    static void type(DeafChain chain, String text) {
        chain.clearBuffer();
        for (int index = 0; index < text.length(); index++) {
            chain.append(text.charAt(index));
        }
    }

    static int obey(DeafChain chain, String text) {
        type(chain, text);
        return chain.obey();
    }

    static String told(DeafChain chain, int back) {
        StringBuilder text = new StringBuilder();
        int code = chain.told(back, 0);
        while (code != DeafChain.NONE) {
            text.append((char) code);
            code = chain.told(back, text.length());
        }
        return text.toString();
    }

    void end() {
        System.out.println(asked + " answers, " + wrong + " of them wrong");
        if (wrong != 0) {
            System.exit(1);
        }
    }
}
