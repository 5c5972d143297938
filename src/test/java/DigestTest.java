import java.math.BigInteger;
import java.util.ArrayList;
import java.util.List;
import java.util.function.Supplier;
import java.util.function.ToLongFunction;

/** Promise 26: digest, made again here from the answers of the other calls. */
public final class DigestTest {
    private static final Check CHECK = new Check();
    private static final long NEW_OBJECT = -971216984541333166L;

    /** Asks a chain that is made anew after a while, as what is told behind 512 calls is free. */
    private static final class Asked {
        private static final int MOST_CALLS = 100;
        private final Supplier<DeafChain> scene;
        private final List<Long> answers = new ArrayList<>();
        private DeafChain chain;
        private int calls = MOST_CALLS;

        Asked(Supplier<DeafChain> scene) {
            this.scene = scene;
        }

        long look(ToLongFunction<DeafChain> call) {
            if (calls == MOST_CALLS) {
                chain = scene.get();
                calls = 0;
            }
            calls++;
            return call.applyAsLong(chain);
        }

        void add(ToLongFunction<DeafChain> call) {
            answers.add(look(call));
        }
    }

    public static void main(String[] args) {
        CHECK.holds("The hash starts at 3877; a new object", DigestTest::newObject);
        CHECK.holds("The values are, in order", DigestTest::scenes);
        CHECK.holds("for each sentence that waits", DigestTest::eachThatWaits);
        CHECK.holds("for each arrival that is kept, from the latest one on, and each character of it as a text",
            DigestTest::eachArrival);
        CHECK.holds("the bits of throughShare (as Double.doubleToLongBits)", DigestTest::everyShare);
        CHECK.holds("the length of the buffer and each of its character codes", DigestTest::everyBuffer);
        CHECK.holds("in long arithmetic with overflow", DigestTest::overflow);
        CHECK.holds("digest: nothing is changed", DigestTest::nothingIsChanged);
        CHECK.end();
    }

    private static DeafChain obeyed(String... texts) {
        DeafChain chain = new DeafChain();
        for (String text : texts) {
            Check.obey(chain, text);
        }
        return chain;
    }

    private static void same(String what, Supplier<DeafChain> scene, String buffer) {
        long hash = 3877;
        for (long value : values(scene, buffer)) {
            hash = 31 * hash + value;
        }
        CHECK.equal("digest() of " + what, scene.get().digest(), hash);
    }

    /** The buffer cannot be looked at, so its text is told. */
    private static List<Long> values(Supplier<DeafChain> scene, String buffer) {
        Asked asked = new Asked(scene);
        for (int what = 0; what < 7; what++) {
            int number = what;
            asked.add(chain -> chain.count(number));
        }
        for (int link = 0; link < 6; link++) {
            addLink(asked, link);
        }
        addWaiting(asked);
        addArrivals(asked);
        for (int place = 0; place < 5; place++) {
            int each = place;
            asked.add(chain -> chain.lost(each, 0));
            asked.add(chain -> chain.lost(each, 1));
        }
        for (int word = 0; word < 30; word++) {
            int each = word;
            asked.add(chain -> chain.lostAt(each));
        }
        asked.add(chain -> chain.stopped(0));
        asked.add(chain -> chain.stopped(1));
        asked.add(DeafChain::worstEar);
        asked.add(DeafChain::costs);
        asked.add(chain -> Double.doubleToLongBits(chain.throughShare()));
        asked.add(chain -> buffer.length());
        for (int index = 0; index < buffer.length(); index++) {
            long code = buffer.charAt(index);
            asked.add(chain -> code);
        }
        return asked.answers;
    }

    private static void addLink(Asked asked, int link) {
        for (int what = 0; what < 7; what++) {
            int number = what;
            asked.add(chain -> chain.link(link, number));
        }
        for (int what = 0; what < 4; what++) {
            int number = what;
            asked.add(chain -> chain.ifGone(link, number));
        }
        for (int word = 0; word < 30; word++) {
            for (int what = 0; what < 3; what++) {
                int each = word;
                int number = what;
                asked.add(chain -> chain.meaning(link, each, number));
            }
        }
    }

    private static void addWaiting(Asked asked) {
        long waiting = asked.look(chain -> chain.count(0));
        for (int place = 0; place < waiting; place++) {
            for (int what = 0; what < 3; what++) {
                int each = place;
                int number = what;
                asked.add(chain -> chain.waits(each, number));
            }
        }
    }

    private static void addArrivals(Asked asked) {
        long kept = asked.look(chain -> chain.count(2));
        for (int back = 0; back < kept; back++) {
            int each = back;
            for (int what = 0; what < 6; what++) {
                int number = what;
                asked.add(chain -> chain.arrival(each, number));
            }
            int length = Check.told(asked.scene.get(), back).length();
            for (int index = 0; index < length; index++) {
                int number = index;
                asked.add(chain -> chain.told(each, number));
            }
        }
    }

    /** The number was worked out outside of Java, from the list of the document. */
    private static void newObject() {
        CHECK.equal("digest() of a new object", new DeafChain().digest(), NEW_OBJECT);
        same("a new object", DeafChain::new, "");
    }

    private static void scenes() {
        String goes = "go;go;go;go;go;go;go;go;go;go;go;go;go;go;go;go;go;go;";
        same("a full one", Scenes::full, goes + "go;go;");
        same("an emptied one", Scenes::emptied, "ear5=9");
        same("one without saved states", Scenes::unsaved, "");
        same("one with 60 characters", Scenes::sixtyCharacters, goes + "ear0=1");
        same("one with ears and fees", () -> obeyed("say1,2,3;say7#9;say29,29,4,10#3;ear1=2;fee4=7", "teach3:9=4;teach2:2=?"), "");
    }

    private static void eachThatWaits() {
        for (int waiting = 0; waiting <= 8; waiting++) {
            int count = waiting;
            same(waiting + " that wait", () -> {
                DeafChain chain = new DeafChain();
                for (int each = 0; each < count; each++) {
                    Check.obey(chain, "say" + (20 + each) + ",1,2#" + (9 - each));
                }
                return chain;
            }, "");
        }
    }

    private static void eachArrival() {
        for (int arrivals = 0; arrivals <= 7; arrivals++) {
            int count = arrivals;
            same(arrivals + " that arrived", () -> {
                DeafChain chain = obeyed("teach3:22=?");
                for (int each = 0; each < count; each++) {
                    Check.obey(chain, "say" + (20 + each) + ",1;go");
                }
                return chain;
            }, "");
        }
    }

    /** All shares of up to 16 sentences. */
    private static void everyShare() {
        for (int lost = 0; lost <= 16; lost++) {
            for (int went = Math.max(1, lost); went <= 16; went++) {
                int losses = lost;
                int all = went;
                same(lost + " lost of " + went, () -> {
                    DeafChain chain = obeyed("teach0:0=?");
                    for (int each = 0; each < all; each++) {
                        Check.obey(chain, each < losses ? "say0;go" : "say1;go");
                    }
                    return chain;
                }, "");
            }
        }
    }

    private static void everyBuffer() {
        String text = "!~;goSAY~!\"#$%&'()*+,-./0123456789:<=>?@BCDEFGHIJKLMNOPQRTUVWXZ";
        for (int length = 0; length <= 60; length++) {
            String typed = text.substring(0, length);
            same(length + " characters", () -> {
                DeafChain chain = new DeafChain();
                Check.type(chain, typed);
                return chain;
            }, typed);
        }
        same("a cleared buffer", () -> {
            DeafChain chain = new DeafChain();
            Check.type(chain, text.substring(0, 60));
            chain.clearBuffer();
            return chain;
        }, "");
    }

    private static void overflow() {
        for (Supplier<DeafChain> scene : List.<Supplier<DeafChain>>of(DeafChain::new, Scenes::unsaved)) {
            BigInteger exact = BigInteger.valueOf(3877);
            for (long value : values(scene, "")) {
                exact = exact.multiply(BigInteger.valueOf(31)).add(BigInteger.valueOf(value));
            }
            CHECK.equal("is the exact number longer than a long?", exact.bitLength() > 64 ? 1 : 0, 1);
            CHECK.equal("digest(), the lowest 64 bits of it,", scene.get().digest(), exact.longValue());
        }
    }

    private static void nothingIsChanged() {
        for (Supplier<DeafChain> scene : Scenes.ALL) {
            DeafChain chain = scene.get();
            long first = chain.digest();
            CHECK.equal("digest() a second time", chain.digest(), first);
            CHECK.equalText("all that can be told", Scenes.tellAll(chain), Scenes.tellAll(scene.get()));
        }
    }
}
