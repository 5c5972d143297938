import java.util.List;
import java.util.function.Supplier;
import java.util.function.ToLongFunction;

/**
 * The calls that the state refuses, and which exception is thrown where several apply; each refused call changes
 * nothing. What a range refuses is in RangesTest.
 */
public final class RefusedTest {
    private static final Check CHECK = new Check();

    public static void main(String[] args) {
        CHECK.holds("If several exceptions apply, the one that is named first in the throws clause is thrown (a link)",
            RefusedTest::linkFirst);
        CHECK.holds("If several exceptions apply, the one that is named first in the throws clause is thrown (append)",
            RefusedTest::codeBeforeFullBuffer);
        CHECK.holds("go: Throws IllegalStateException if none waits", RefusedTest::noneWaits);
        CHECK.holds("append: Throws IllegalStateException if the buffer has 60 characters", RefusedTest::fullBuffer);
        CHECK.holds("obey: Throws IllegalArgumentException if the buffer is not complete orders as a text (the buffer stays)",
            RefusedTest::notCompleteOrders);
        CHECK.holds("undo: Throws IllegalStateException if there is none", RefusedTest::noState);
        CHECK.holds("restore: Throws IllegalStateException if there is no snapshot", RefusedTest::noSnapshot);
        CHECK.holds("A call that throws an exception changes nothing.", RefusedTest::refusedOneByOne);
        CHECK.end();
    }

    private static void everywhere(String what, ToLongFunction<DeafChain> call, String due) {
        for (Supplier<DeafChain> scene : Scenes.ALL) {
            CHECK.refused(scene, what, call, due);
        }
    }

    private static void linkFirst() {
        for (int link : new int[] {-1, 6, Integer.MIN_VALUE, Integer.MAX_VALUE}) {
            everywhere("teach, word too great", chain -> chain.teach(link, 30, 0), Check.INDEX);
            everywhere("teach, word too small", chain -> chain.teach(link, -1, 0), Check.INDEX);
            everywhere("teach, meaning too great", chain -> chain.teach(link, 0, 30), Check.INDEX);
            everywhere("teach, meaning too small", chain -> chain.teach(link, 0, -2), Check.INDEX);
            everywhere("ear, ear too small", chain -> chain.ear(link, -1), Check.INDEX);
            everywhere("ear, ear too great", chain -> chain.ear(link, 10), Check.INDEX);
            everywhere("fee, fee too small", chain -> chain.fee(link, -1), Check.INDEX);
            everywhere("fee, fee too great", chain -> chain.fee(link, 10), Check.INDEX);
            everywhere("meaning, word too small", chain -> chain.meaning(link, -1, 0), Check.INDEX);
            everywhere("meaning, word too great", chain -> chain.meaning(link, 30, 0), Check.INDEX);
            everywhere("meaning, what too small", chain -> chain.meaning(link, 0, -1), Check.INDEX);
            everywhere("meaning, what too great", chain -> chain.meaning(link, 0, 3), Check.INDEX);
            everywhere("link, what too small", chain -> chain.link(link, -1), Check.INDEX);
            everywhere("link, what too great", chain -> chain.link(link, 7), Check.INDEX);
            everywhere("ifGone, what too small", chain -> chain.ifGone(link, -1), Check.INDEX);
            everywhere("ifGone, what too great", chain -> chain.ifGone(link, 4), Check.INDEX);
        }
    }

    private static void codeBeforeFullBuffer() {
        for (Supplier<DeafChain> scene : List.<Supplier<DeafChain>>of(Scenes::full, Scenes::sixtyCharacters)) {
            for (int code : new int[] {32, 127, -1, 0, Integer.MIN_VALUE, Integer.MAX_VALUE}) {
                CHECK.refused(scene, "append(" + code + ") to 60 characters", chain -> chain.append(code), Check.ARGUMENT);
            }
        }
    }

    private static void noneWaits() {
        CHECK.refused(DeafChain::new, "go() of a new object", DeafChain::go, Check.STATE);
        CHECK.refused(Scenes::emptied, "go() behind the last one", DeafChain::go, Check.STATE);
        CHECK.refused(Scenes::unsaved, "go() where it was undone that one waits", DeafChain::go, Check.STATE);
        DeafChain chain = Scenes.full();
        for (int left = 7; left >= 0; left--) {
            chain.go();
            CHECK.equal("how many wait behind go()", chain.count(0), left);
        }
        CHECK.equalText("the ninth go()", Check.outcome(chain::go), "throws." + Check.STATE);
    }

    private static void fullBuffer() {
        for (int code : new int[] {33, ';', 'g', '0', 126}) {
            CHECK.refused(Scenes::full, "append(" + code + ") to 60 characters", chain -> chain.append(code), Check.STATE);
            CHECK.refused(Scenes::sixtyCharacters, "append(" + code + ") to 60 characters that are complete",
                chain -> chain.append(code), Check.STATE);
        }
        DeafChain chain = new DeafChain();
        for (int length = 1; length <= 60; length++) {
            CHECK.equal("append('~')", chain.append('~'), length);
        }
        CHECK.equalText("the character behind 60", Check.outcome(() -> chain.append('~')), "throws." + Check.STATE);
        CHECK.equal("length", chain.clearBuffer(), 60);
        CHECK.equal("append('~') behind clearBuffer()", chain.append('~'), 1);
    }

    private static void notCompleteOrders() {
        CHECK.refused(DeafChain::new, "obey() of an empty buffer", DeafChain::obey, Check.ARGUMENT);
        CHECK.refused(Scenes::unsaved, "obey() of an empty buffer with a snapshot", DeafChain::obey, Check.ARGUMENT);
        CHECK.refused(Scenes::full, "obey() of 60 characters that end with ;", DeafChain::obey, Check.ARGUMENT);
        for (String text : new String[] {"g", "go;", "say", "say1,", "say1#", "ear0=", "teach0:1=", "gg", "say30", "go;go;say1;x"}) {
            CHECK.refused(() -> typed(new DeafChain(), text), "obey() of " + text, DeafChain::obey, Check.ARGUMENT);
            CHECK.refused(() -> typed(Scenes.full(), text), "obey() of " + text + " with 8 that wait", DeafChain::obey, Check.ARGUMENT);
            DeafChain chain = typed(new DeafChain(), text);
            Check.outcome(chain::obey);
            CHECK.equal("the length of the buffer behind obey() of " + text, chain.clearBuffer(), text.length());
        }
    }

    private static DeafChain typed(DeafChain chain, String text) {
        Check.type(chain, text);
        return chain;
    }

    private static void noState() {
        CHECK.refused(DeafChain::new, "undo() of a new object", DeafChain::undo, Check.STATE);
        CHECK.refused(Scenes::unsaved, "undo() behind the last one", DeafChain::undo, Check.STATE);
        DeafChain chain = Scenes.full();
        for (int left = 5; left >= 0; left--) {
            CHECK.equal("undo()", chain.undo(), left);
        }
        CHECK.equalText("the seventh undo()", Check.outcome(chain::undo), "throws." + Check.STATE);
    }

    private static void noSnapshot() {
        CHECK.refused(DeafChain::new, "restore() of a new object", DeafChain::restore, Check.STATE);
        CHECK.refused(Scenes::sixtyCharacters, "restore() without keep()", DeafChain::restore, Check.STATE);
    }

    /** One call that is refused behind the other must leave the object as none would, up to what comes later. */
    private static void refusedOneByOne() {
        for (Supplier<DeafChain> scene : Scenes.ALL) {
            DeafChain asked = scene.get();
            for (ToLongFunction<DeafChain> call : REFUSED) {
                String got = Check.outcome(() -> call.applyAsLong(asked));
                CHECK.equal("is " + got + " an exception?", got.startsWith("throws.") ? 1 : 0, 1);
            }
            DeafChain other = scene.get();
            CHECK.equal("go() behind all of them", outcomeOfGo(asked), outcomeOfGo(other));
            CHECK.equalText("all that can be told behind all of them", Scenes.tellAll(asked), Scenes.tellAll(other));
        }
    }

    private static long outcomeOfGo(DeafChain chain) {
        return chain.count(0) == 0 ? DeafChain.NONE : chain.go();
    }

    private static final List<ToLongFunction<DeafChain>> REFUSED = List.of(
        chain -> chain.teach(0, 30, 5), chain -> chain.teach(6, 0, 5), chain -> chain.teach(0, 0, 30),
        chain -> chain.ear(0, 10), chain -> chain.ear(-1, 3), chain -> chain.fee(0, 10), chain -> chain.fee(-1, 3),
        chain -> chain.append(32), chain -> chain.append(127), chain -> chain.stopped(2), chain -> chain.told(6, 0),
        chain -> chain.told(0, -1), chain -> chain.meaning(0, 0, 3), chain -> chain.meaning(0, 30, 0),
        chain -> chain.link(0, 7), chain -> chain.waits(-1, 0), chain -> chain.waits(0, 3), chain -> chain.arrival(6, 0),
        chain -> chain.arrival(0, 6), chain -> chain.count(7), chain -> chain.lost(30, 0), chain -> chain.lost(0, 2),
        chain -> chain.ifGone(0, 4), chain -> chain.ifGone(6, 0), chain -> chain.lostAt(30));
}
