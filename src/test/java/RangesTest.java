import java.util.function.Supplier;

/**
 * The range of each parameter, as the document tells it in its line: the last value that is allowed and the first that
 * is not, at both ends. What is not allowed is refused by the exception of the throws clause, on each of the scenes,
 * and changes nothing.
 */
public final class RangesTest {
    private static final Check CHECK = new Check();
    private static final int LEAST = Integer.MIN_VALUE;
    private static final int MOST = Integer.MAX_VALUE;

    private interface Call {
        long of(DeafChain chain, int value);
    }

    public static void main(String[] args) {
        CHECK.holds("teach, link: 0 to 5", RangesTest::teachLink);
        CHECK.holds("teach, word: 0 to 29", RangesTest::teachWord);
        CHECK.holds("teach, meaning: 0 to 29, or NONE for none", RangesTest::teachMeaning);
        CHECK.holds("ear, link: 0 to 5", RangesTest::earLink);
        CHECK.holds("ear, ear: 0 to 9", RangesTest::earEar);
        CHECK.holds("fee, link: 0 to 5", RangesTest::feeLink);
        CHECK.holds("fee, fee: 0 to 9", RangesTest::feeFee);
        CHECK.holds("append, code: the character code, 33 to 126", RangesTest::appendCode);
        CHECK.holds("stopped, what: 0 or 1", RangesTest::stoppedWhat);
        CHECK.holds("told, back: 0 to 5", RangesTest::toldBack);
        CHECK.holds("told, index: 0 or more", RangesTest::toldIndex);
        CHECK.holds("meaning, link: 0 to 5", RangesTest::meaningLink);
        CHECK.holds("meaning, word: 0 to 29", RangesTest::meaningWord);
        CHECK.holds("meaning, what: 0 to 2", RangesTest::meaningWhat);
        CHECK.holds("link, link: 0 to 5", RangesTest::linkLink);
        CHECK.holds("link, what: 0 to 6", RangesTest::linkWhat);
        CHECK.holds("waits, place: from 0", RangesTest::waitsPlace);
        CHECK.holds("waits, what: 0 to 2", RangesTest::waitsWhat);
        CHECK.holds("arrival, back: 0 to 5", RangesTest::arrivalBack);
        CHECK.holds("arrival, what: 0 to 5", RangesTest::arrivalWhat);
        CHECK.holds("count, what: 0 to 6", RangesTest::countWhat);
        CHECK.holds("lost, place: from 0 to 29", RangesTest::lostPlace);
        CHECK.holds("lost, what: 0 or 1", RangesTest::lostWhat);
        CHECK.holds("ifGone, link: 0 to 5", RangesTest::ifGoneLink);
        CHECK.holds("ifGone, what: 0 to 3", RangesTest::ifGoneWhat);
        CHECK.holds("lostAt, word: 0 to 29", RangesTest::lostAtWord);
        CHECK.end();
    }

    private static void outside(String what, int lowest, int highest, String due, Call call) {
        for (int value : new int[] {LEAST, lowest - 1, highest + 1, MOST}) {
            refused(what, value, due, call);
        }
    }

    private static void below(String what, int lowest, Call call) {
        refused(what, LEAST, Check.ARGUMENT, call);
        refused(what, lowest - 1, Check.ARGUMENT, call);
    }

    private static void refused(String what, int value, String due, Call call) {
        for (Supplier<DeafChain> scene : Scenes.ALL) {
            CHECK.refused(scene, what + ", " + value + ",", chain -> call.of(chain, value), due);
        }
    }

    private static void equal(String what, long got, long due) {
        CHECK.equal(what, got, due);
    }

    private static void teachLink() {
        for (int link : new int[] {0, 5}) {
            DeafChain chain = new DeafChain();
            equal("teach(" + link + ", 3, 4)", chain.teach(link, 3, 4), 3);
            for (int other = 0; other < 6; other++) {
                equal("the meaning of 3 in " + other, chain.meaning(other, 3, 0), other == link ? 4 : 3);
            }
        }
        outside("link of teach", 0, 5, Check.INDEX, (chain, link) -> chain.teach(link, 3, 4));
    }

    private static void teachWord() {
        for (int word : new int[] {0, 29}) {
            DeafChain chain = new DeafChain();
            equal("teach(2, " + word + ", 4)", chain.teach(2, word, 4), word);
            for (int other = 0; other < 30; other++) {
                equal("the meaning of " + other, chain.meaning(2, other, 0), other == word ? 4 : other);
            }
            equal("the last word of the link before", chain.meaning(1, 29, 0), 29);
            equal("the first word of the next link", chain.meaning(3, 0, 0), 0);
        }
        outside("word of teach", 0, 29, Check.ARGUMENT, (chain, word) -> chain.teach(2, word, 4));
    }

    private static void teachMeaning() {
        DeafChain chain = new DeafChain();
        equal("teach(2, 7, 0)", chain.teach(2, 7, 0), 7);
        equal("teach(2, 7, 29)", chain.teach(2, 7, 29), 0);
        equal("teach(2, 7, NONE)", chain.teach(2, 7, DeafChain.NONE), 29);
        equal("teach(2, 7, 0) again", chain.teach(2, 7, 0), -1);
        outside("meaning of teach", -1, 29, Check.ARGUMENT, (other, meaning) -> other.teach(2, 7, meaning));
    }

    private static void earLink() {
        for (int link : new int[] {0, 5}) {
            DeafChain chain = new DeafChain();
            equal("ear(" + link + ", 4)", chain.ear(link, 4), 0);
            for (int other = 0; other < 6; other++) {
                equal("the ear of " + other, chain.link(other, 0), other == link ? 4 : 0);
            }
        }
        outside("link of ear", 0, 5, Check.INDEX, (chain, link) -> chain.ear(link, 4));
    }

    private static void earEar() {
        DeafChain chain = new DeafChain();
        equal("ear(3, 9)", chain.ear(3, 9), 0);
        equal("ear(3, 0)", chain.ear(3, 0), 9);
        equal("the ear", chain.link(3, 0), 0);
        outside("ear of ear", 0, 9, Check.ARGUMENT, (other, ear) -> other.ear(3, ear));
    }

    private static void feeLink() {
        for (int link : new int[] {0, 5}) {
            DeafChain chain = new DeafChain();
            equal("fee(" + link + ", 4)", chain.fee(link, 4), 1);
            for (int other = 0; other < 6; other++) {
                equal("the fee of " + other, chain.link(other, 1), other == link ? 4 : 1);
            }
        }
        outside("link of fee", 0, 5, Check.INDEX, (chain, link) -> chain.fee(link, 4));
    }

    private static void feeFee() {
        DeafChain chain = new DeafChain();
        equal("fee(3, 9)", chain.fee(3, 9), 1);
        equal("fee(3, 0)", chain.fee(3, 0), 9);
        equal("the fee", chain.link(3, 1), 0);
        outside("fee of fee", 0, 9, Check.ARGUMENT, (other, fee) -> other.fee(3, fee));
    }

    private static void appendCode() {
        DeafChain chain = new DeafChain();
        equal("append(33)", chain.append(33), 1);
        equal("append(126)", chain.append(126), 2);
        outside("code of append", 33, 126, Check.ARGUMENT, DeafChain::append);
    }

    private static void stoppedWhat() {
        DeafChain chain = Scenes.full();
        equal("stopped(0)", chain.stopped(0), 8);
        equal("stopped(1)", chain.stopped(1), 1);
        outside("what of stopped", 0, 1, Check.ARGUMENT, DeafChain::stopped);
    }

    private static void toldBack() {
        DeafChain chain = Scenes.full();
        equal("told(0, 0)", chain.told(0, 0), '4');
        equal("told(5, 0)", chain.told(5, 0), '?');
        outside("back of told", 0, 5, Check.ARGUMENT, (other, back) -> other.told(back, 0));
    }

    private static void toldIndex() {
        DeafChain chain = Scenes.full();
        equal("told(1, 0)", chain.told(1, 0), '8');
        equal("told(1, the greatest)", chain.told(1, MOST), -1);
        below("index of told", 0, (other, index) -> other.told(1, index));
    }

    private static void meaningLink() {
        DeafChain chain = new DeafChain();
        chain.teach(0, 3, 4);
        chain.teach(5, 3, 2);
        equal("meaning(0, 3, 0)", chain.meaning(0, 3, 0), 4);
        equal("meaning(5, 3, 0)", chain.meaning(5, 3, 0), 2);
        for (int what = 0; what < 3; what++) {
            int asked = what;
            outside("link of meaning", 0, 5, Check.INDEX, (other, link) -> other.meaning(link, 3, asked));
        }
    }

    private static void meaningWord() {
        DeafChain chain = new DeafChain();
        for (int what = 0; what < 3; what++) {
            equal("meaning(1, 0, " + what + ")", chain.meaning(1, 0, what), 0);
            equal("meaning(1, 29, " + what + ")", chain.meaning(1, 29, what), 29);
            int asked = what;
            outside("word of meaning", 0, 29, Check.ARGUMENT, (other, word) -> other.meaning(1, word, asked));
        }
    }

    private static void meaningWhat() {
        DeafChain chain = new DeafChain();
        chain.teach(1, 8, 9);
        equal("meaning(1, 9, 0)", chain.meaning(1, 9, 0), 9);
        equal("meaning(1, 9, 1)", chain.meaning(1, 9, 1), 8);
        equal("meaning(1, 8, 2)", chain.meaning(1, 8, 2), 30);
        outside("what of meaning", 0, 2, Check.ARGUMENT, (other, what) -> other.meaning(1, 9, what));
    }

    private static void linkLink() {
        DeafChain chain = new DeafChain();
        chain.ear(0, 7);
        chain.ear(5, 8);
        equal("link(0, 0)", chain.link(0, 0), 7);
        equal("link(5, 0)", chain.link(5, 0), 8);
        for (int what = 0; what < 7; what++) {
            int asked = what;
            outside("link of link", 0, 5, Check.INDEX, (other, link) -> other.link(link, asked));
        }
    }

    private static void linkWhat() {
        DeafChain chain = new DeafChain();
        chain.ear(2, 1);
        Check.obey(chain, "say1,2;go");
        equal("link(2, 0)", chain.link(2, 0), 1);
        equal("link(2, 6)", chain.link(2, 6), 1);
        outside("what of link", 0, 6, Check.ARGUMENT, (other, what) -> other.link(2, what));
    }

    private static void waitsPlace() {
        DeafChain chain = Scenes.full();
        equal("waits(0, 2)", chain.waits(0, 2), 4);
        equal("waits(7, 2)", chain.waits(7, 2), 6);
        equal("waits(the greatest, 2)", chain.waits(MOST, 2), -1);
        below("place of waits", 0, (other, place) -> other.waits(place, 0));
    }

    private static void waitsWhat() {
        DeafChain chain = new DeafChain();
        Check.obey(chain, "say27,1,1#6");
        equal("waits(0, 0)", chain.waits(0, 0), 3);
        equal("waits(0, 2)", chain.waits(0, 2), 27);
        outside("what of waits", 0, 2, Check.ARGUMENT, (other, what) -> other.waits(0, what));
        outside("what of waits, where none waits", 0, 2, Check.ARGUMENT, (other, what) -> other.waits(8, what));
    }

    private static void arrivalBack() {
        DeafChain chain = Scenes.full();
        equal("arrival(0, 5)", chain.arrival(0, 5), 1);
        equal("arrival(5, 5)", chain.arrival(5, 5), 2);
        outside("back of arrival", 0, 5, Check.ARGUMENT, (other, back) -> other.arrival(back, 0));
    }

    private static void arrivalWhat() {
        DeafChain chain = new DeafChain();
        chain.ear(3, 1);
        Check.obey(chain, "say1,2,3;go");
        equal("arrival(0, 0)", chain.arrival(0, 0), 2);
        equal("arrival(0, 5)", chain.arrival(0, 5), 3);
        outside("what of arrival", 0, 5, Check.ARGUMENT, (other, what) -> other.arrival(0, what));
        outside("what of arrival, where none is kept", 0, 5, Check.ARGUMENT, (other, what) -> other.arrival(5, what));
    }

    private static void countWhat() {
        DeafChain chain = Scenes.full();
        equal("count(0)", chain.count(0), 8);
        equal("count(6)", chain.count(6), 6);
        outside("what of count", 0, 6, Check.ARGUMENT, DeafChain::count);
    }

    private static void lostPlace() {
        DeafChain chain = new DeafChain();
        equal("lost(0, 0)", chain.lost(0, 0), 0);
        equal("lost(29, 0)", chain.lost(29, 0), 29);
        outside("place of lost", 0, 29, Check.ARGUMENT, (other, place) -> other.lost(place, 0));
        outside("place of lost, how often", 0, 29, Check.ARGUMENT, (other, place) -> other.lost(place, 1));
    }

    private static void lostWhat() {
        DeafChain chain = new DeafChain();
        Check.obey(chain, "teach0:9=?;say9;go");
        equal("lost(0, 0)", chain.lost(0, 0), 9);
        equal("lost(0, 1)", chain.lost(0, 1), 1);
        outside("what of lost", 0, 1, Check.ARGUMENT, (other, what) -> other.lost(0, what));
    }

    private static void ifGoneLink() {
        DeafChain chain = new DeafChain();
        Check.obey(chain, "ear0=4;ear5=1;say1,2,3,4,5");
        equal("ifGone(0, 0)", chain.ifGone(0, 0), 4);
        equal("ifGone(5, 0)", chain.ifGone(5, 0), 2);
        for (int what = 0; what < 4; what++) {
            int asked = what;
            outside("link of ifGone", 0, 5, Check.INDEX, (other, link) -> other.ifGone(link, asked));
        }
    }

    private static void ifGoneWhat() {
        DeafChain chain = new DeafChain();
        Check.obey(chain, "ear0=2;say1,2,3,4,5,6");
        equal("ifGone(0, 0)", chain.ifGone(0, 0), 4);
        equal("ifGone(0, 3)", chain.ifGone(0, 3), 2);
        outside("what of ifGone", 0, 3, Check.ARGUMENT, (other, what) -> other.ifGone(0, what));
    }

    private static void lostAtWord() {
        DeafChain chain = new DeafChain();
        chain.teach(0, 0, DeafChain.NONE);
        chain.teach(5, 29, DeafChain.NONE);
        equal("lostAt(0)", chain.lostAt(0), 0);
        equal("lostAt(29)", chain.lostAt(29), 5);
        outside("word of lostAt", 0, 29, Check.ARGUMENT, DeafChain::lostAt);
    }
}
