/** The edges that the terms "The chain" and "Losses" name, sentence by sentence. */
public final class ChainEdgesTest {
    private static final Check CHECK = new Check();
    private static final String TWELVE = "0,1,2,3,4,5,6,7,8,9,10,11";

    public static void main(String[] args) {
        CHECK.holds("An object is used for at most 512 calls after it has been made", ChainEdgesTest::lastCalls);
        CHECK.holds("There are 6 links, numbered from 0, one behind the other.", ChainEdgesTest::sixLinks);
        CHECK.holds("Each language has the words 0 to 29, and a mumble, that is told as 30.", ChainEdgesTest::wordsAndMumble);
        CHECK.holds("for each word a meaning, that is a word of the next language, or none", ChainEdgesTest::meaningsOrNone);
        CHECK.holds("at first a word means itself in each link", ChainEdgesTest::firstMeanings);
        CHECK.holds("A mumble means a mumble.", ChainEdgesTest::mumbles);
        CHECK.holds("A link has an ear, 0 to 9, at first 0", ChainEdgesTest::firstEars);
        CHECK.holds("with the ear 0 nothing is missed", ChainEdgesTest::earOfNothing);
        CHECK.holds("each one is missed whose place can be divided by the ear and 1, together", ChainEdgesTest::eachEar);
        CHECK.holds("whose place in the sentence as it hears it (from 1 on)", ChainEdgesTest::placeAsHeard);
        CHECK.holds("of the words that it hears, mumbles too, each one is missed", ChainEdgesTest::mumblesAreMissed);
        CHECK.holds("It has a fee, 0 to 9, at first 1", ChainEdgesTest::firstFees);
        CHECK.holds("a fee for each word, mumbles too, that it hears and does not miss", ChainEdgesTest::fees);
        CHECK.holds("says the others in their order by its dictionary, a word without a meaning as a mumble",
            ChainEdgesTest::saysInOrder);
        CHECK.holds("Something is lost in a link for a sentence, if the link misses a word of it", ChainEdgesTest::lossByEar);
        CHECK.holds("or says a word that was none as a mumble", ChainEdgesTest::lossByMumble);
        CHECK.holds("or if it says a word by a meaning that a lower word has, too", ChainEdgesTest::lossByLowerWord);
        CHECK.holds("The loss of a sentence is the first link in which something is lost", ChainEdgesTest::firstLoss);
        CHECK.holds("each word as the lowest word that has it as its meaning in that link", ChainEdgesTest::lowestComesBack);
        CHECK.holds("the loss is the first link from which not the very sentence comes back", ChainEdgesTest::oneAndTwelveWords);
        CHECK.holds("Both agree.", ChainEdgesTest::bothAgree);
        CHECK.end();
    }

    private static String sent(DeafChain chain, String words) {
        Check.obey(chain, "say" + words + ";go");
        return Check.told(chain, 0);
    }

    private static void lossIs(DeafChain chain, String words, int due) {
        sent(chain, words);
        CHECK.equal("the loss of " + words, chain.arrival(0, 3), due);
        CHECK.equal("the loss of " + words + " by sending back", chain.arrival(0, 4), due);
    }

    private static void lastCalls() {
        DeafChain chain = new DeafChain();
        for (int round = 0; round < 63; round++) {
            for (int index = 0; index < 7; index++) {
                chain.append("say9;go".charAt(index));
            }
            CHECK.equal("obey()", chain.obey(), 2);
        }
        CHECK.equal("the call 505, count(1)", chain.count(1), 63);
        CHECK.equal("the call 506, count(2)", chain.count(2), 6);
        CHECK.equal("the call 507, count(4)", chain.count(4), 378);
        CHECK.equal("the call 508, count(6)", chain.count(6), 6);
        CHECK.equal("the call 509, link(5, 5)", chain.link(5, 5), 63);
        CHECK.equal("the call 510, ear(5, 9)", chain.ear(5, 9), 0);
        CHECK.equal("the call 511, undo()", chain.undo(), 5);
        CHECK.equal("the call 512, link(5, 0)", chain.link(5, 0), 0);
    }

    private static void sixLinks() {
        DeafChain chain = new DeafChain();
        for (int link = 0; link < 6; link++) {
            chain.teach(link, 10 + link, 11 + link);
        }
        CHECK.equalText("10, that each link makes one more", sent(chain, "10"), "16");
        CHECK.equal("six links are paid", chain.arrival(0, 2), 6);
        CHECK.equalText("15, that only the last link changes", sent(chain, "15"), "16");
        for (int link = 0; link < 6; link++) {
            CHECK.equal("paid to the link " + link, chain.link(link, 5), 2);
        }
    }

    private static void wordsAndMumble() {
        DeafChain chain = new DeafChain();
        CHECK.equalText("the lowest words and the highest", sent(chain, "0,29,28,1"), "0,29,28,1");
        CHECK.equal("the word 29", chain.meaning(0, 29, 0), 29);
        CHECK.refused(DeafChain::new, "the word 30", other -> other.meaning(0, 30, 0), Check.ARGUMENT);
        CHECK.refused(DeafChain::new, "the word 30 as a meaning", other -> other.teach(0, 0, 30), Check.ARGUMENT);
        chain.teach(0, 29, DeafChain.NONE);
        CHECK.equal("what comes back for 29 without a meaning", chain.meaning(0, 29, 1), 30);
        CHECK.equal("what has the meaning 29, that none has", chain.meaning(0, 29, 2), 30);
    }

    private static void meaningsOrNone() {
        DeafChain chain = new DeafChain();
        chain.teach(0, 0, 29);
        chain.teach(0, 29, 0);
        chain.teach(0, 15, DeafChain.NONE);
        CHECK.equalText("told", sent(chain, "0,15,29"), "29,?,0");
        CHECK.equal("none", chain.meaning(0, 15, 0), DeafChain.NONE);
    }

    private static void firstMeanings() {
        DeafChain chain = new DeafChain();
        for (int link = 0; link < 6; link++) {
            for (int word = 0; word < 30; word++) {
                CHECK.equal("meaning(" + link + ", " + word + ", 0)", chain.meaning(link, word, 0), word);
            }
        }
    }

    private static void mumbles() {
        for (int link = 0; link < 6; link++) {
            DeafChain chain = new DeafChain();
            chain.teach(link, 7, DeafChain.NONE);
            CHECK.equalText("a mumble from the link " + link, sent(chain, "7,8"), "?,8");
            CHECK.equal("mumbles", chain.arrival(0, 1), 1);
        }
        DeafChain chain = new DeafChain();
        chain.teach(0, 7, DeafChain.NONE);
        for (int word = 0; word < 30; word++) {
            chain.teach(1, word, 5);
            chain.teach(2, word, DeafChain.NONE);
            chain.teach(3, word, 0);
            chain.teach(4, word, 29);
        }
        CHECK.equalText("a mumble, and mumbles of the link 2", sent(chain, "7,8"), "?,?");
        lossIs(chain, "7", 0);
        CHECK.equal("mumbles", chain.arrival(0, 1), 1);
        CHECK.equal("no loss in the link 1 by the mumble", chain.link(1, 6), 0);
    }

    private static void firstEars() {
        DeafChain chain = new DeafChain();
        for (int link = 0; link < 6; link++) {
            CHECK.equal("ear of " + link, chain.link(link, 0), 0);
            CHECK.equal("ear(" + link + ", 9)", chain.ear(link, 9), 0);
            CHECK.equal("ear(" + link + ", 0)", chain.ear(link, 0), 9);
        }
    }

    private static void earOfNothing() {
        DeafChain chain = new DeafChain();
        CHECK.equalText("told", sent(chain, TWELVE), TWELVE);
        CHECK.equal("missed", chain.count(5), 0);
        CHECK.equal("loss", chain.arrival(0, 3), -1);
        for (int link = 0; link < 6; link++) {
            chain.ear(link, 1);
            chain.ear(link, 0);
        }
        CHECK.equalText("told with ears that are 0 again", sent(chain, TWELVE), TWELVE);
    }

    private static final String[] HEARD = {TWELVE, "0,2,4,6,8,10", "0,1,3,4,6,7,9,10", "0,1,2,4,5,6,8,9,10",
        "0,1,2,3,5,6,7,8,10,11", "0,1,2,3,4,6,7,8,9,10", "0,1,2,3,4,5,7,8,9,10,11", "0,1,2,3,4,5,6,8,9,10,11",
        "0,1,2,3,4,5,6,7,9,10,11", "0,1,2,3,4,5,6,7,8,10,11"};
    private static final int[] MISSED = {0, 6, 4, 3, 2, 2, 1, 1, 1, 1};

    private static void eachEar() {
        for (int link = 0; link < 6; link++) {
            for (int ear = 0; ear <= 9; ear++) {
                DeafChain chain = new DeafChain();
                chain.ear(link, ear);
                CHECK.equalText("told with the ear " + ear + " of " + link, sent(chain, TWELVE), HEARD[ear]);
                CHECK.equal("missed with the ear " + ear, chain.link(link, 4), MISSED[ear]);
                CHECK.equal("missed by all", chain.count(5), MISSED[ear]);
            }
        }
    }

    private static void placeAsHeard() {
        DeafChain chain = new DeafChain();
        chain.ear(0, 1);
        chain.ear(1, 1);
        CHECK.equalText("told with two ears", sent(chain, TWELVE), "0,4,8");
        chain.ear(5, 2);
        CHECK.equalText("told with three ears", sent(chain, TWELVE), "0,4");
        chain.ear(3, 1);
        CHECK.equalText("told with four ears", sent(chain, TWELVE), "0,8");
        CHECK.equalText("the first word is never missed", sent(chain, "5"), "5");
        CHECK.equalText("of two words the second is", sent(chain, "5,6"), "5");
    }

    private static void mumblesAreMissed() {
        DeafChain chain = new DeafChain();
        chain.teach(0, 3, DeafChain.NONE);
        chain.ear(1, 1);
        CHECK.equalText("told", sent(chain, "4,3,5,3"), "4,5");
        CHECK.equalText("a mumble has a place, too", sent(chain, "3,4,3,5"), "?,?");
        CHECK.equal("missed", chain.link(1, 4), 4);
    }

    private static void firstFees() {
        DeafChain chain = new DeafChain();
        for (int link = 0; link < 6; link++) {
            CHECK.equal("fee of " + link, chain.link(link, 1), 1);
            CHECK.equal("fee(" + link + ", 9)", chain.fee(link, 9), 1);
            CHECK.equal("fee(" + link + ", 0)", chain.fee(link, 0), 9);
        }
        sent(chain, "1,2");
        CHECK.equal("paid with all fees 0", chain.arrival(0, 2), 0);
        CHECK.equal("paid with all fees 0", chain.count(4), 0);
    }

    private static void fees() {
        DeafChain chain = new DeafChain();
        chain.teach(0, 3, DeafChain.NONE);
        chain.ear(1, 2);
        chain.fee(0, 2);
        chain.fee(1, 9);
        chain.fee(2, 0);
        chain.fee(5, 7);
        sent(chain, "3,4,3,3");
        int[] due = {8, 27, 0, 3, 3, 21};
        for (int link = 0; link < 6; link++) {
            CHECK.equal("paid to the link " + link, chain.link(link, 5), due[link]);
        }
        CHECK.equal("paid for it", chain.arrival(0, 2), 62);
        chain.fee(1, 1);
        sent(chain, "3");
        CHECK.equal("paid by the fee of its time", chain.link(1, 5), 28);
    }

    private static void saysInOrder() {
        DeafChain chain = new DeafChain();
        chain.teach(0, 1, 11);
        chain.teach(0, 2, DeafChain.NONE);
        chain.teach(1, 11, 21);
        chain.teach(1, 1, 9);
        CHECK.equalText("told", sent(chain, "2,1,0,2,1,11"), "?,21,0,?,21,21");
    }

    private static void lossByEar() {
        String[] beginnings = {"", "0", "0,1", "0,1,2", "0,1,2,3", "0,1,2,3,4", "0,1,2,3,4,5", "0,1,2,3,4,5,6", "0,1,2,3,4,5,6,7",
            "0,1,2,3,4,5,6,7,8", "0,1,2,3,4,5,6,7,8,9"};
        for (int link = 0; link < 6; link++) {
            for (int ear = 1; ear <= 9; ear++) {
                DeafChain chain = new DeafChain();
                chain.ear(link, ear);
                lossIs(chain, beginnings[ear], -1);
                lossIs(chain, beginnings[ear + 1], link);
            }
        }
    }

    private static void lossByMumble() {
        for (int link = 0; link < 6; link++) {
            DeafChain chain = new DeafChain();
            chain.teach(link, 0, DeafChain.NONE);
            chain.teach(link, 29, DeafChain.NONE);
            lossIs(chain, "0", link);
            lossIs(chain, "29", link);
            lossIs(chain, "1,28", -1);
            lossIs(chain, "1,28,0", link);
            CHECK.equal("losses in the link " + link, chain.link(link, 6), 3);
            CHECK.equal("losses in all links", chain.count(3), 3);
        }
    }

    private static void lossByLowerWord() {
        for (int link = 0; link < 6; link++) {
            DeafChain chain = new DeafChain();
            chain.teach(link, 29, 28);
            chain.teach(link, 0, 1);
            chain.teach(link, 14, 15);
            lossIs(chain, "29", link);
            lossIs(chain, "28", -1);
            lossIs(chain, "1", link);
            lossIs(chain, "0", -1);
            lossIs(chain, "14", -1);
            lossIs(chain, "15", link);
            lossIs(chain, "0,2,14,28", -1);
        }
    }

    private static void firstLoss() {
        DeafChain chain = new DeafChain();
        chain.teach(5, 4, DeafChain.NONE);
        lossIs(chain, "4", 5);
        chain.ear(4, 1);
        lossIs(chain, "4", 5);
        lossIs(chain, "4,4", 4);
        chain.teach(3, 4, 2);
        lossIs(chain, "4,4", 3);
        lossIs(chain, "2,4", 3);
        chain.teach(0, 9, DeafChain.NONE);
        lossIs(chain, "4,9", 0);
        lossIs(chain, "9", 0);
        int[] due = {2, 0, 0, 2, 1, 2};
        for (int link = 0; link < 6; link++) {
            CHECK.equal("losses in the link " + link, chain.link(link, 6), due[link]);
        }
    }

    private static void lowestComesBack() {
        DeafChain chain = new DeafChain();
        chain.teach(0, 20, 5);
        chain.teach(0, 10, 5);
        chain.teach(0, 5, 6);
        CHECK.equal("the lowest of 10 and 20", chain.meaning(0, 5, 2), 10);
        lossIs(chain, "10", -1);
        lossIs(chain, "20", 0);
        chain.teach(0, 0, 5);
        CHECK.equal("the lowest of 0, 10 and 20", chain.meaning(0, 5, 2), 0);
        lossIs(chain, "10", 0);
        lossIs(chain, "0", -1);
        lossIs(chain, "6", 0);
        chain.teach(3, 5, 9);
        chain.teach(3, 9, 5);
        lossIs(chain, "0", -1);
    }

    private static void oneAndTwelveWords() {
        DeafChain chain = new DeafChain();
        lossIs(chain, "29", -1);
        lossIs(chain, "0,1,2,3,4,5,6,7,8,9,10,29", -1);
        chain.ear(5, 1);
        lossIs(chain, "29", -1);
        lossIs(chain, "0,1,2,3,4,5,6,7,8,9,10,29", 5);
        chain.ear(5, 0);
        chain.teach(4, 29, DeafChain.NONE);
        lossIs(chain, "29", 4);
        lossIs(chain, "0,1,2,3,4,5,6,7,8,9,10,29", 4);
        chain.teach(4, 29, 0);
        lossIs(chain, "1,1,2,3,4,5,6,7,8,9,10,29", 4);
        lossIs(chain, "1,1,2,3,4,5,6,7,8,9,10,28", -1);
        lossIs(chain, "1,2", -1);
        chain.ear(5, 1);
        lossIs(chain, "1,2", 5);
    }

    /** Losses of all three kinds in each link, with words that turn into one another from link to link. */
    private static void bothAgree() {
        for (int first = 0; first < 6; first++) {
            for (int second = 0; second < 6; second++) {
                DeafChain chain = new DeafChain();
                chain.teach(first, 12, 13);
                chain.teach(first, 13, 12);
                chain.teach(second, 13, 3);
                chain.teach(second, 12, DeafChain.NONE);
                chain.ear(first, 3);
                chain.ear(second, 2);
                for (String words : new String[] {"12", "13", "3", "12,13", "3,4", "3,4,5", "3,4,5,6", "6,3,12,13"}) {
                    sent(chain, words);
                    CHECK.equal("the loss of " + words + " with " + first + " and " + second, chain.arrival(0, 4), chain.arrival(0, 3));
                }
            }
        }
    }
}
