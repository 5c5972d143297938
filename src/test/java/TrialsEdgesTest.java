/** The edges of ifGone, lostAt, worstEar, costs and throughShare, sentence by sentence. */
public final class TrialsEdgesTest {
    private static final Check CHECK = new Check();
    private static final int NONE = DeafChain.NONE;
    private static final String TWELVE = "1,2,3,4,5,6,7,8,9,10,11,12";

    public static void main(String[] args) {
        CHECK.holds("ifGone: Returns the number; NONE if no sentence waits.", TrialsEdgesTest::noneWouldGo);
        CHECK.holds("ifGone: the sentence that would go first", TrialsEdgesTest::firstWouldGo);
        CHECK.holds("ifGone: 0: how many words it would have behind this link; 3: words that this link would miss",
            TrialsEdgesTest::wordsBehind);
        CHECK.holds("ifGone: 1: mumbles among them", TrialsEdgesTest::mumblesBehind);
        CHECK.holds("ifGone: 2: what this link would be paid for it", TrialsEdgesTest::wouldBePaid);
        CHECK.holds("lostAt: Returns the link; NONE if it would not be lost.", TrialsEdgesTest::whereLost);
        CHECK.holds("lostAt: as a sentence of this word, without any ear", TrialsEdgesTest::withoutAnyEar);
        CHECK.holds("worstEar: the link with whose ear as 0 the most words more would arrive", TrialsEdgesTest::mostWordsMore);
        CHECK.holds("worstEar: would arrive, mumbles too, as go and arrival count them", TrialsEdgesTest::mumblesArrive);
        CHECK.holds("worstEar: of several the lowest", TrialsEdgesTest::lowestOfSeveral);
        CHECK.holds("worstEar: NONE if there is none with which more would", TrialsEdgesTest::noneWithMore);
        CHECK.holds("worstEar: or no sentence waits", TrialsEdgesTest::noneForEars);
        CHECK.holds("worstEar: of the sentence that would go first", TrialsEdgesTest::earsOfTheFirst);
        CHECK.holds("costs: for all sentences that wait; the sum", TrialsEdgesTest::fromNothingToTheMost);
        CHECK.holds("costs: if they went now, one after the other", TrialsEdgesTest::costsAreWhatIsPaid);
        CHECK.holds("throughShare: 1.0 without any", TrialsEdgesTest::shareWithoutAny);
        CHECK.holds("throughShare: the sentences without a loss so far, divided by all that went so far", TrialsEdgesTest::shares);
        CHECK.holds("what would be; nothing is changed", TrialsEdgesTest::nothingIsChanged);
        CHECK.end();
    }

    private static void eachIs(DeafChain chain, int what, int... due) {
        for (int link = 0; link < 6; link++) {
            CHECK.equal("ifGone(" + link + ", " + what + ")", chain.ifGone(link, what), due[link]);
        }
    }

    private static void noneWouldGo() {
        DeafChain chain = new DeafChain();
        chain.ear(0, 1);
        for (int what = 0; what < 4; what++) {
            eachIs(chain, what, -1, -1, -1, -1, -1, -1);
        }
        Check.obey(chain, "say1,2,3");
        eachIs(chain, 0, 2, 2, 2, 2, 2, 2);
        chain.go();
        for (int what = 0; what < 4; what++) {
            eachIs(chain, what, -1, -1, -1, -1, -1, -1);
        }
    }

    private static void firstWouldGo() {
        DeafChain chain = new DeafChain();
        Check.obey(chain, "say1,2;say1,2,3;say1#2");
        eachIs(chain, 0, 1, 1, 1, 1, 1, 1);
        chain.go();
        eachIs(chain, 0, 2, 2, 2, 2, 2, 2);
        Check.obey(chain, "say1,2,3,4#9");
        eachIs(chain, 0, 4, 4, 4, 4, 4, 4);
        chain.undo();
        eachIs(chain, 0, 2, 2, 2, 2, 2, 2);
    }

    private static void wordsBehind() {
        DeafChain chain = new DeafChain();
        Check.obey(chain, "say" + TWELVE);
        eachIs(chain, 0, 12, 12, 12, 12, 12, 12);
        eachIs(chain, 3, 0, 0, 0, 0, 0, 0);
        int[] ears = {9, 4, 0, 1, 9, 2};
        for (int link = 0; link < 6; link++) {
            chain.ear(link, ears[link]);
        }
        eachIs(chain, 0, 11, 9, 9, 5, 5, 4);
        eachIs(chain, 3, 1, 2, 0, 4, 0, 1);
        CHECK.equal("go()", chain.go(), 4);
    }

    private static void mumblesBehind() {
        DeafChain chain = new DeafChain();
        Check.obey(chain, "say1,2,3,4,5,6");
        chain.teach(0, 2, NONE);
        chain.teach(0, 6, NONE);
        chain.teach(2, 5, NONE);
        chain.teach(5, 1, NONE);
        chain.teach(5, 3, NONE);
        chain.ear(3, 5);
        chain.ear(4, 1);
        eachIs(chain, 1, 2, 2, 3, 2, 1, 3);
        eachIs(chain, 0, 6, 6, 6, 5, 3, 3);
        Check.obey(chain, "ear3=0;ear4=0;say2,2,2,2,2,2,2,2,2,2,2,2#2");
        eachIs(chain, 1, 12, 12, 12, 12, 12, 12);
        Check.obey(chain, "ear1=1;say1,4#3");
        eachIs(chain, 1, 0, 0, 0, 0, 0, 1);
    }

    private static void wouldBePaid() {
        DeafChain chain = new DeafChain();
        Check.obey(chain, "say" + TWELVE);
        eachIs(chain, 2, 12, 12, 12, 12, 12, 12);
        chain.fee(0, 9);
        chain.fee(1, 0);
        chain.ear(2, 1);
        chain.fee(2, 9);
        chain.fee(5, 2);
        chain.teach(0, 1, NONE);
        eachIs(chain, 2, 108, 0, 54, 6, 6, 12);
        CHECK.equal("nothing is paid yet", chain.count(4), 0);
        chain.go();
        CHECK.equal("what was paid then", chain.count(4), 186);
    }

    private static void whereLost() {
        for (int link = 0; link < 6; link++) {
            DeafChain chain = new DeafChain();
            chain.teach(link, 0, NONE);
            chain.teach(link, 29, 28);
            CHECK.equal("lostAt(0)", chain.lostAt(0), link);
            CHECK.equal("lostAt(29)", chain.lostAt(29), link);
            CHECK.equal("lostAt(28)", chain.lostAt(28), NONE);
            CHECK.equal("lostAt(1)", chain.lostAt(1), NONE);
            chain.teach(5, 0, 1);
            CHECK.equal("lostAt(1), the last link has it for 0, too", chain.lostAt(1), 5);
            CHECK.equal("lostAt(0)", chain.lostAt(0), link == 5 ? NONE : link);
        }
        DeafChain chain = new DeafChain();
        for (int word = 0; word < 30; word++) {
            CHECK.equal("lostAt(" + word + ") of a new object", chain.lostAt(word), NONE);
        }
        chain.teach(0, 3, 4);
        chain.teach(1, 4, 5);
        chain.teach(2, 5, NONE);
        CHECK.equal("lostAt(3), as it goes on as 4 and 5,", chain.lostAt(3), 2);
        CHECK.equal("lostAt(4)", chain.lostAt(4), 0);
        CHECK.equal("lostAt(5)", chain.lostAt(5), 1);
    }

    private static void withoutAnyEar() {
        DeafChain chain = new DeafChain();
        for (int link = 0; link < 6; link++) {
            chain.ear(link, 1 + link);
        }
        Check.obey(chain, "say1,2,3;go;say1,2#9");
        for (int word = 0; word < 30; word++) {
            CHECK.equal("lostAt(" + word + ")", chain.lostAt(word), NONE);
        }
        chain.teach(4, 2, NONE);
        CHECK.equal("lostAt(2), that an ear would miss before,", chain.lostAt(2), 4);
        CHECK.equal("the ear stays", chain.link(0, 0), 1);
    }

    private static DeafChain withEars(String sentence, int... ears) {
        DeafChain chain = new DeafChain();
        for (int link = 0; link < 6; link++) {
            chain.ear(link, ears[link]);
        }
        Check.obey(chain, sentence);
        return chain;
    }

    private static void worstIs(int due, String sentence, int... ears) {
        CHECK.equal("worstEar()", withEars(sentence, ears).worstEar(), due);
    }

    private static void mostWordsMore() {
        for (int link = 0; link < 6; link++) {
            for (int ear = 1; ear <= 9; ear++) {
                int[] ears = new int[6];
                ears[link] = ear;
                worstIs(link, "say" + TWELVE, ears);
            }
        }
        worstIs(1, "say" + TWELVE, 9, 1, 9, 9, 9, 9);
        worstIs(5, "say" + TWELVE, 9, 9, 9, 9, 9, 1);
        worstIs(3, "say" + TWELVE, 0, 5, 0, 2, 5, 0);
        worstIs(2, "say1,2,3,4,5,6", 6, 8, 5, 6, 6, 6);
    }

    private static void mumblesArrive() {
        worstIs(3, "teach1:4=?;say4,4,4,4,4,4,4,4", 0, 0, 0, 1, 0, 9);
        worstIs(NONE, "teach1:4=?;say4,4,4,4,4,4,4,4", 0, 0, 0, 0, 0, 0);
        // With the ear of the link 0 as 0 two mumbles more would arrive, with that of the link 5 one word more.
        worstIs(0, "teach1:4=?;say1,2,4,3,5,4,6,7", 2, 0, 0, 0, 0, 4);
    }

    private static void lowestOfSeveral() {
        worstIs(0, "say" + TWELVE, 1, 0, 0, 0, 0, 1);
        worstIs(4, "say" + TWELVE, 0, 0, 0, 0, 9, 9);
        worstIs(1, "say" + TWELVE, 9, 1, 1, 1, 0, 0);
        worstIs(2, "say1,2,3,4,5", 0, 0, 3, 0, 3, 0);
    }

    private static void noneWithMore() {
        worstIs(NONE, "say" + TWELVE, 0, 0, 0, 0, 0, 0);
        worstIs(NONE, "say1", 1, 1, 1, 1, 1, 1);
        worstIs(NONE, "say1,2,3,4,5,6,7,8,9", 9, 9, 9, 9, 9, 9);
        // Whichever of both ears were 0, the other one would still miss the word.
        worstIs(NONE, "say1,2", 1, 1, 0, 0, 0, 0);
        worstIs(NONE, "say1,2,3", 0, 2, 0, 0, 2, 0);
        worstIs(NONE, "say1,2,3,4", 0, 0, 3, 0, 3, 0);
        worstIs(1, "say1,2,3,4,5,6,7,8,9,10", 0, 9, 0, 0, 0, 0);
    }

    private static void noneForEars() {
        worstIs(NONE, "say1,2,3,4;go", 1, 1, 1, 1, 1, 1);
        worstIs(NONE, "say1,2,3,4;go", 0, 0, 0, 1, 0, 0);
        DeafChain chain = new DeafChain();
        CHECK.equal("worstEar() of a new object", chain.worstEar(), NONE);
        chain.ear(0, 1);
        CHECK.equal("worstEar() without a sentence", chain.worstEar(), NONE);
    }

    private static void earsOfTheFirst() {
        worstIs(3, "say1,2,3,4,5,6,7,8,9;say1,2#2", 0, 2, 0, 1, 0, 0);
        worstIs(3, "say1,2;say1,2,3,4,5,6,7,8,9", 0, 2, 0, 1, 0, 0);
        worstIs(1, "say1,2;say1,2,3,4,5,6,7,8,9#2", 0, 1, 0, 2, 0, 0);
        worstIs(NONE, "say1;say1,2,3,4,5,6,7,8,9", 0, 2, 0, 1, 0, 0);
    }

    /** Eight sentences of twelve words wait. */
    private static DeafChain most() {
        DeafChain chain = new DeafChain();
        for (int pair = 0; pair < 4; pair++) {
            Check.obey(chain, "say0,1,2,3,4,5,6,7,8,9,0,1;say0,1,2,3,4,5,6,7,8,9,0,1");
        }
        return chain;
    }

    private static void fromNothingToTheMost() {
        CHECK.equal("costs() of a new object", new DeafChain().costs(), 0);
        DeafChain chain = most();
        CHECK.equal("costs() with the fees 1", chain.costs(), 8 * 12 * 6);
        for (int link = 0; link < 6; link++) {
            chain.fee(link, 9);
        }
        CHECK.equal("costs() with the fees 9", chain.costs(), 8 * 12 * 6 * 9);
        chain.ear(5, 1);
        CHECK.equal("costs() with the last ear 1", chain.costs(), 8 * (12 * 5 + 6) * 9);
        chain.ear(0, 1);
        CHECK.equal("costs() with the first ear 1, too,", chain.costs(), 8 * (6 * 5 + 3) * 9);
        for (int link = 0; link < 6; link++) {
            chain.fee(link, 0);
        }
        CHECK.equal("costs() with the fees 0", chain.costs(), 0);
    }

    private static void costsAreWhatIsPaid() {
        DeafChain chain = most();
        chain.fee(3, 7);
        chain.ear(2, 4);
        chain.teach(1, 0, NONE);
        int each = 12 * 2 + 10 + 10 * 7 + 10 * 2;
        for (int left = 8; left > 0; left--) {
            CHECK.equal("costs() of " + left, chain.costs(), left * each);
            CHECK.equal("what was paid", chain.count(4), (8 - left) * each);
            chain.go();
        }
        CHECK.equal("costs() of none", chain.costs(), 0);
        CHECK.equal("what was paid", chain.count(4), 8 * each);
    }

    private static void shareIs(DeafChain chain, double due) {
        CHECK.equalText("throughShare()", Double.toString(chain.throughShare()), Double.toString(due));
    }

    private static void shareWithoutAny() {
        DeafChain chain = new DeafChain();
        shareIs(chain, 1.0);
        chain.teach(0, 1, NONE);
        Check.obey(chain, "say1");
        shareIs(chain, 1.0);
        chain.go();
        shareIs(chain, 0.0);
        chain.undo();
        shareIs(chain, 1.0);
    }

    private static void shares() {
        DeafChain chain = new DeafChain();
        chain.teach(5, 1, NONE);
        double[] due = {1.0, 0.5, 2.0 / 3.0, 0.75, 0.6, 4.0 / 6.0, 5.0 / 7.0, 0.625, 6.0 / 9.0, 0.7};
        String words = "2122122122";
        for (int index = 0; index < 10; index++) {
            Check.obey(chain, "say" + words.charAt(index) + ";go");
            shareIs(chain, due[index]);
        }
        DeafChain lossy = new DeafChain();
        lossy.ear(0, 1);
        Check.obey(lossy, "say1,2;go;say1,3;go;say4,5;go");
        shareIs(lossy, 0.0);
        Check.obey(lossy, "say1;go");
        shareIs(lossy, 0.25);
    }

    private static void nothingIsChanged() {
        DeafChain chain = Scenes.full();
        for (int link = 0; link < 6; link++) {
            for (int what = 0; what < 4; what++) {
                chain.ifGone(link, what);
            }
            chain.worstEar();
            chain.costs();
            chain.lostAt(29 - link);
            chain.throughShare();
            chain.digest();
        }
        CHECK.equalText("all that can be told", Scenes.tellAll(chain), Scenes.tellAll(Scenes.full()));
    }
}
