/** Promise 26: digest, made again here from the answers of the other calls. */
public final class DigestTest {
    private static final Check CHECK = new Check();

    public static void main(String[] args) {
        DeafChain chain = new DeafChain();
        same(chain, "new object");
        Check.obey(chain, "say1,2,3;say7#9;say29,29,4,10#3;ear1=2;fee4=7");
        same(chain, "sentences wait");
        chain.teach(3, 9, 4);
        chain.teach(2, 2, -1);
        same(chain, "links taught");
        Check.obey(chain, "go;go;go;go");
        same(chain, "a stop");
        Check.type(chain, "say~!");
        same(chain, "a text in the buffer");
        chain.undo();
        same(chain, "undone");
        everyShare();
        CHECK.end();
    }

    private static void same(DeafChain chain, String when) {
        CHECK.equal("digest(), " + when + ",", chain.digest(), again(chain));
        CHECK.equal("digest() a second time, " + when + ",", chain.digest(), again(chain));
    }

    /** All shares of up to 24 sentences, for the bits of a double. */
    private static void everyShare() {
        for (int lost = 0; lost <= 24; lost++) {
            DeafChain chain = new DeafChain();
            chain.teach(0, 0, -1);
            for (int sent = 0; sent < 24; sent++) {
                Check.obey(chain, sent < lost ? "say0;go" : "say1;go");
                CHECK.equal("digest() of a share", chain.digest(), again(chain));
            }
        }
    }

    private static long again(DeafChain chain) {
        Hash hash = new Hash();
        for (int what = 0; what < 7; what++) {
            hash.add(chain.count(what));
        }
        for (int link = 0; link < 6; link++) {
            for (int what = 0; what < 7; what++) {
                hash.add(chain.link(link, what));
            }
            for (int what = 0; what < 4; what++) {
                hash.add(chain.ifGone(link, what));
            }
            for (int word = 0; word < 30; word++) {
                for (int what = 0; what < 3; what++) {
                    hash.add(chain.meaning(link, word, what));
                }
            }
        }
        for (int place = 0; place < chain.count(0); place++) {
            for (int what = 0; what < 3; what++) {
                hash.add(chain.waits(place, what));
            }
        }
        for (int back = 0; back < chain.count(2); back++) {
            for (int what = 0; what < 6; what++) {
                hash.add(chain.arrival(back, what));
            }
            String text = Check.told(chain, back);
            for (int index = 0; index < text.length(); index++) {
                hash.add(text.charAt(index));
            }
        }
        for (int place = 0; place < 5; place++) {
            hash.add(chain.lost(place, 0));
            hash.add(chain.lost(place, 1));
        }
        for (int word = 0; word < 30; word++) {
            hash.add(chain.lostAt(word));
        }
        hash.add(chain.stopped(0));
        hash.add(chain.stopped(1));
        hash.add(chain.worstEar());
        hash.add(chain.costs());
        hash.add(Double.doubleToLongBits(chain.throughShare()));
        addBuffer(chain, hash);
        return hash.value;
    }

    /** The buffer can only be read by the tests that typed it: it is cleared and typed again. */
    private static void addBuffer(DeafChain chain, Hash hash) {
        String text = "say~!";
        int length = chain.clearBuffer();
        hash.add(length);
        for (int index = 0; index < length; index++) {
            hash.add(text.charAt(index));
            chain.append(text.charAt(index));
        }
    }

    private static final class Hash {
        long value = 3877;

        void add(long next) {
            value = 31 * value + next;
        }
    }
}
