/** The edges of meaning, link, count and lost, sentence by sentence; waits and arrival are in SentencesEdgesTest. */
public final class LooksEdgesTest {
    private static final Check CHECK = new Check();
    private static final int NONE = DeafChain.NONE;

    public static void main(String[] args) {
        CHECK.holds("NONE = -1", () -> CHECK.equal("NONE", DeafChain.NONE, -1));
        CHECK.holds("Creates a chain as told above, without sentences and a snapshot, with an empty buffer.", LooksEdgesTest::newObject);
        CHECK.holds("teach: Returns the previous meaning, NONE without one.", LooksEdgesTest::previousMeanings);
        CHECK.holds("ear: Returns the previous one.", LooksEdgesTest::previousEars);
        CHECK.holds("fee: Returns the previous one.", LooksEdgesTest::previousFees);
        CHECK.holds("meaning: 0: its meaning, NONE without one", LooksEdgesTest::meanings);
        CHECK.holds("meaning: 1: the lowest one with the same meaning, 30 without a meaning", LooksEdgesTest::wordsThatComeBack);
        CHECK.holds("meaning: 2: the lowest word that has it as its meaning, 30 if none has", LooksEdgesTest::lowestWords);
        CHECK.holds("link: 0: its ear; 1: its fee", LooksEdgesTest::earsAndFees);
        CHECK.holds("link: 2: words without a meaning", LooksEdgesTest::wordsWithoutMeaning);
        CHECK.holds("link: 3: words that have a meaning that a lower word has, too", LooksEdgesTest::wordsLikeLowerOnes);
        CHECK.holds("link: 4: words that it missed so far", LooksEdgesTest::missed);
        CHECK.holds("link: 5: what it was paid so far", LooksEdgesTest::paid);
        CHECK.holds("link: 6: sentences so far whose loss was in it", LooksEdgesTest::losses);
        CHECK.holds("count: each from nothing to the most", LooksEdgesTest::counts);
        CHECK.holds("lost: the one that was lost most first", LooksEdgesTest::mostLost);
        CHECK.holds("lost: of several the lowest", LooksEdgesTest::lowestOfSeveral);
        CHECK.holds("looks; nothing is changed", LooksEdgesTest::nothingIsChanged);
        CHECK.end();
    }

    private static void newObject() {
        DeafChain chain = new DeafChain();
        for (int what = 0; what < 7; what++) {
            CHECK.equal("count(" + what + ")", chain.count(what), 0);
            for (int link = 0; link < 6; link++) {
                CHECK.equal("link(" + link + ", " + what + ")", chain.link(link, what), what == 1 ? 1 : 0);
            }
        }
        CHECK.equal("waits(0, 0)", chain.waits(0, 0), NONE);
        CHECK.equal("arrival(0, 0)", chain.arrival(0, 0), NONE);
        CHECK.equal("told(0, 0)", chain.told(0, 0), NONE);
        CHECK.equal("stopped(0)", chain.stopped(0), NONE);
        CHECK.equal("stopped(1)", chain.stopped(1), NONE);
        CHECK.equalText("restore()", Check.outcome(chain::restore), "throws." + Check.STATE);
        CHECK.equalText("undo()", Check.outcome(chain::undo), "throws." + Check.STATE);
        CHECK.equal("clearBuffer()", chain.clearBuffer(), 0);
    }

    private static void previousMeanings() {
        for (int link = 0; link < 6; link++) {
            for (int word : new int[] {0, 1, 28, 29}) {
                DeafChain chain = new DeafChain();
                CHECK.equal("teach of a new object", chain.teach(link, word, NONE), word);
                CHECK.equal("teach without a meaning", chain.teach(link, word, NONE), NONE);
                CHECK.equal("teach without a meaning", chain.teach(link, word, 0), NONE);
                CHECK.equal("teach", chain.teach(link, word, 29), 0);
                CHECK.equal("teach", chain.teach(link, word, word), 29);
            }
        }
    }

    private static void previousEars() {
        for (int link = 0; link < 6; link++) {
            DeafChain chain = new DeafChain();
            for (int ear = 0; ear <= 9; ear++) {
                CHECK.equal("ear", chain.ear(link, ear), Math.max(0, ear - 1));
                CHECK.equal("ear again", chain.ear(link, ear), ear);
            }
        }
    }

    private static void previousFees() {
        for (int link = 0; link < 6; link++) {
            DeafChain chain = new DeafChain();
            CHECK.equal("fee of a new object", chain.fee(link, 0), 1);
            for (int fee = 1; fee <= 9; fee++) {
                CHECK.equal("fee", chain.fee(link, fee), fee - 1);
                CHECK.equal("fee again", chain.fee(link, fee), fee);
            }
        }
    }

    private static void wordIs(DeafChain chain, int word, int... due) {
        for (int what = 0; what < 3; what++) {
            CHECK.equal("meaning(2, " + word + ", " + what + ")", chain.meaning(2, word, what), due[what]);
        }
    }

    private static void meanings() {
        DeafChain chain = new DeafChain();
        chain.teach(2, 0, NONE);
        chain.teach(2, 29, 0);
        CHECK.equal("without a meaning", chain.meaning(2, 0, 0), NONE);
        CHECK.equal("the meaning 0", chain.meaning(2, 29, 0), 0);
        chain.teach(2, 0, 29);
        CHECK.equal("the meaning 29", chain.meaning(2, 0, 0), 29);
    }

    private static void wordsThatComeBack() {
        DeafChain chain = new DeafChain();
        chain.teach(2, 29, 12);
        CHECK.equal("for 29", chain.meaning(2, 29, 1), 12);
        CHECK.equal("for 12", chain.meaning(2, 12, 1), 12);
        chain.teach(2, 0, 12);
        CHECK.equal("for 29", chain.meaning(2, 29, 1), 0);
        CHECK.equal("for 12", chain.meaning(2, 12, 1), 0);
        CHECK.equal("for 0", chain.meaning(2, 0, 1), 0);
        chain.teach(2, 28, 29);
        CHECK.equal("for 28, the only one", chain.meaning(2, 28, 1), 28);
        chain.teach(2, 1, NONE);
        chain.teach(2, 2, NONE);
        CHECK.equal("for 1", chain.meaning(2, 1, 1), 30);
        CHECK.equal("for 2, though 1 has none, too,", chain.meaning(2, 2, 1), 30);
    }

    private static void lowestWords() {
        DeafChain chain = new DeafChain();
        chain.teach(2, 29, 12);
        wordIs(chain, 12, 12, 12, 12);
        wordIs(chain, 29, 12, 12, 30);
        chain.teach(2, 0, 12);
        wordIs(chain, 12, 12, 0, 0);
        wordIs(chain, 0, 12, 0, 30);
        chain.teach(2, 29, 0);
        wordIs(chain, 0, 12, 0, 29);
        wordIs(chain, 29, 0, 29, 30);
        chain.teach(2, 28, NONE);
        wordIs(chain, 28, -1, 30, 30);
        chain.teach(2, 0, 29);
        wordIs(chain, 29, 0, 29, 0);
        wordIs(chain, 12, 12, 12, 12);
    }

    private static void earsAndFees() {
        DeafChain chain = new DeafChain();
        for (int link = 0; link < 6; link++) {
            chain.ear(link, 9 - link);
            chain.fee(link, link);
        }
        for (int link = 0; link < 6; link++) {
            CHECK.equal("ear", chain.link(link, 0), 9 - link);
            CHECK.equal("fee", chain.link(link, 1), link);
        }
    }

    private static void wordsWithoutMeaning() {
        DeafChain chain = new DeafChain();
        for (int word = 0; word < 30; word++) {
            CHECK.equal("words without a meaning", chain.link(3, 2), word);
            chain.teach(3, word, NONE);
        }
        CHECK.equal("all words", chain.link(3, 2), 30);
        CHECK.equal("none of them is like a lower one", chain.link(3, 3), 0);
        CHECK.equal("the link before", chain.link(2, 2), 0);
        CHECK.equal("the next link", chain.link(4, 2), 0);
    }

    private static void wordsLikeLowerOnes() {
        DeafChain chain = new DeafChain();
        for (int word = 1; word < 30; word++) {
            CHECK.equal("words like lower ones", chain.link(3, 3), word - 1);
            chain.teach(3, word, 0);
        }
        CHECK.equal("all but the lowest", chain.link(3, 3), 29);
        chain.teach(3, 0, NONE);
        CHECK.equal("all but the lowest with a meaning", chain.link(3, 3), 28);
        CHECK.equal("without a meaning", chain.link(3, 2), 1);
        chain.teach(3, 0, 29);
        CHECK.equal("a lower one with another meaning", chain.link(3, 3), 28);
        CHECK.equal("the link before", chain.link(2, 3), 0);
        CHECK.equal("the next link", chain.link(4, 3), 0);
    }

    private static void missed() {
        DeafChain chain = new DeafChain();
        chain.ear(0, 1);
        chain.ear(5, 1);
        Check.obey(chain, "say1;go");
        CHECK.equal("missed of one word", chain.link(0, 4), 0);
        Check.obey(chain, "say1,2,3,4,5,6,7,8,9,0,1,2;go");
        CHECK.equal("missed by the first link", chain.link(0, 4), 6);
        CHECK.equal("missed by the last link", chain.link(5, 4), 3);
        CHECK.equal("missed by all", chain.count(5), 9);
        Check.obey(chain, "ear0=0;say1,2;go");
        CHECK.equal("missed by the first link, as before,", chain.link(0, 4), 6);
        CHECK.equal("missed by the last link", chain.link(5, 4), 4);
    }

    private static void paid() {
        DeafChain chain = new DeafChain();
        chain.fee(0, 9);
        chain.fee(5, 0);
        CHECK.equal("paid without a sentence", chain.link(0, 5), 0);
        Check.obey(chain, "say1,2,3,4,5,6,7,8,9,0,1,2;go");
        CHECK.equal("paid for twelve words", chain.link(0, 5), 108);
        CHECK.equal("paid for nothing", chain.link(5, 5), 0);
        chain.ear(0, 1);
        Check.obey(chain, "say1,2;go");
        CHECK.equal("paid for what it does not miss", chain.link(0, 5), 117);
        CHECK.equal("paid to the second link", chain.link(1, 5), 13);
        CHECK.equal("paid to all", chain.count(4), 117 + 4 * 13);
    }

    private static void losses() {
        DeafChain chain = new DeafChain();
        for (int link = 0; link < 6; link++) {
            chain.teach(link, link, NONE);
        }
        for (int link = 5; link >= 0; link--) {
            Check.obey(chain, "say5," + link + ";go");
            CHECK.equal("losses in " + link, chain.link(link, 6), 1);
            CHECK.equal("losses", chain.count(3), 6 - link);
        }
        Check.obey(chain, "say6;go");
        CHECK.equal("losses", chain.count(3), 6);
        CHECK.equal("losses in the last one", chain.link(5, 6), 1);
    }

    private static void counts() {
        DeafChain chain = new DeafChain();
        for (int waiting = 0; waiting <= 8; waiting++) {
            CHECK.equal("count(0)", chain.count(0), waiting);
            CHECK.equal("count(6)", chain.count(6), Math.min(waiting, 6));
            Check.obey(chain, waiting == 3 ? "say9,9" : "say1,2");
        }
        CHECK.equal("count(0)", chain.count(0), 8);
        chain.teach(1, 9, NONE);
        chain.ear(2, 1);
        chain.teach(3, 1, NONE);
        for (int went = 0; went <= 8; went++) {
            int[] due = {8 - went, went, Math.min(went, 6), went, 8 * went, went, 6};
            for (int what = 0; what < 7; what++) {
                CHECK.equal("count(" + what + ") behind " + went, chain.count(what), due[what]);
            }
            if (went < 8) {
                chain.go();
            }
        }
    }

    private static void mostLost() {
        DeafChain chain = new DeafChain();
        chain.teach(0, 29, NONE);
        chain.teach(0, 0, NONE);
        chain.teach(0, 13, NONE);
        Check.obey(chain, "say29;go;say29,13;go;say29,13,0;go");
        CHECK.lostIs(chain, 0, 29, 3);
        CHECK.lostIs(chain, 1, 13, 2);
        CHECK.lostIs(chain, 2, 0, 1);
        CHECK.lostIs(chain, 3, 1, 0);
        CHECK.lostIs(chain, 14, 12, 0);
        CHECK.lostIs(chain, 15, 14, 0);
        CHECK.lostIs(chain, 29, 28, 0);
    }

    private static void lowestOfSeveral() {
        DeafChain chain = new DeafChain();
        for (int place = 0; place < 30; place++) {
            CHECK.lostIs(chain, place, place, 0);
        }
        for (int word = 0; word < 30; word++) {
            chain.teach(4, word, NONE);
        }
        Check.obey(chain, "say29,28,27,26,25,24,23,22,21,20,19,18;go");
        Check.obey(chain, "say17,16,15,14,13,12,11,10,9,8,7,6;go");
        Check.obey(chain, "say5,4,3,2,1,0;go");
        for (int place = 0; place < 30; place++) {
            CHECK.lostIs(chain, place, place, 1);
        }
        Check.obey(chain, "say29,7;go");
        CHECK.lostIs(chain, 0, 7, 2);
        CHECK.lostIs(chain, 1, 29, 2);
        CHECK.lostIs(chain, 2, 0, 1);
        CHECK.lostIs(chain, 9, 8, 1);
        CHECK.lostIs(chain, 29, 28, 1);
    }

    private static void nothingIsChanged() {
        DeafChain chain = Scenes.full();
        for (int round = 0; round < 6; round++) {
            chain.stopped(round % 2);
            chain.told(round, 0);
            chain.meaning(round, 29, round % 3);
            chain.link(round, round);
            chain.waits(round, round % 3);
            chain.arrival(round, round);
            chain.count(round);
            chain.lost(round, round % 2);
            chain.ifGone(round, round % 4);
            chain.lostAt(round);
            chain.worstEar();
            chain.costs();
            chain.throughShare();
            chain.firstError();
        }
        CHECK.equalText("all that can be told", Scenes.tellAll(chain), Scenes.tellAll(Scenes.full()));
    }
}
