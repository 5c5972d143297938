/** The edges that the term "Sentences" names, and those of go, waits, arrival and told, sentence by sentence. */
public final class SentencesEdgesTest {
    private static final Check CHECK = new Check();
    private static final String TEN_TO_TWENTY_ONE = "10,11,12,13,14,15,16,17,18,19,20,21";

    public static void main(String[] args) {
        CHECK.holds("A sentence has 1 to 12 words", SentencesEdgesTest::howManyWords);
        CHECK.holds("words, 0 to 29", SentencesEdgesTest::whichWords);
        CHECK.holds("and an urgency, 1 to 9", SentencesEdgesTest::urgencies);
        CHECK.holds("At most 8 sentences wait", SentencesEdgesTest::eightWait);
        CHECK.holds("the one with the greatest urgency goes first", SentencesEdgesTest::greatestFirst);
        CHECK.holds("of several the one that came first", SentencesEdgesTest::firstOfSeveral);
        CHECK.holds("When one goes, it is sent through all links; each link is paid; what arrives is an arrival.",
            SentencesEdgesTest::oneGoes);
        CHECK.holds("The latest 6 arrivals are kept.", SentencesEdgesTest::sixArrivals);
        CHECK.holds("it is counted how often it was lost so far: for each sentence that went and has a loss",
            SentencesEdgesTest::lostSoFar);
        CHECK.holds("each unlike word of it", SentencesEdgesTest::unlikeWords);
        CHECK.holds("that would alone (as a sentence of this word, without any ear) be lost in some link",
            SentencesEdgesTest::lostAlone);
        CHECK.holds("go: Returns how many words arrive.", SentencesEdgesTest::wordsThatArrive);
        CHECK.holds("arrival: 0: words that arrived; 1: mumbles among them; 5: words that were sent",
            SentencesEdgesTest::arrivedAndSent);
        CHECK.holds("waits: Returns the number; NONE if there are not so many.", SentencesEdgesTest::notSoManyWait);
        CHECK.holds("arrival: Returns the number; NONE if not so many are kept.", SentencesEdgesTest::notSoManyArrivals);
        CHECK.holds("arrival: 3: its loss, that is a link, NONE without one; 4: the same by sending back",
            SentencesEdgesTest::lossOrNone);
        CHECK.holds("told: NONE if it has not so many", SentencesEdgesTest::textsEnd);
        CHECK.holds("told: or not so many arrivals are kept", SentencesEdgesTest::notSoManyTexts);
        CHECK.holds("told: its words with \",\" between them, a mumble as \"?\"", SentencesEdgesTest::texts);
        CHECK.end();
    }

    private static DeafChain waiting(String orders) {
        DeafChain chain = new DeafChain();
        Check.obey(chain, orders);
        return chain;
    }

    private static void howManyWords() {
        StringBuilder words = new StringBuilder();
        for (int length = 1; length <= 12; length++) {
            words.append(length == 1 ? "" : ",").append(length);
            DeafChain chain = waiting("say" + words);
            CHECK.equal("words of " + words, chain.waits(0, 0), length);
            CHECK.equal("go()", chain.go(), length);
            CHECK.equal("sent", chain.arrival(0, 5), length);
            CHECK.equalText("told", Check.told(chain, 0), words.toString());
        }
        CHECK.refused(() -> typed("say" + words + ",13"), "obey() of 13 words", DeafChain::obey, Check.ARGUMENT);
        CHECK.refused(() -> typed("say"), "obey() of no word", DeafChain::obey, Check.ARGUMENT);
    }

    private static DeafChain typed(String text) {
        DeafChain chain = new DeafChain();
        Check.type(chain, text);
        return chain;
    }

    private static void whichWords() {
        for (int word = 0; word < 30; word++) {
            DeafChain chain = waiting("say" + word);
            CHECK.equal("first word", chain.waits(0, 2), word);
            chain.go();
            CHECK.equalText("told", Check.told(chain, 0), Integer.toString(word));
        }
        CHECK.refused(() -> typed("say30"), "obey() of say30", DeafChain::obey, Check.ARGUMENT);
        CHECK.refused(() -> typed("say-1"), "obey() of say-1", DeafChain::obey, Check.ARGUMENT);
    }

    private static void urgencies() {
        for (int urgency = 1; urgency <= 9; urgency++) {
            CHECK.equal("urgency", waiting("say0#" + urgency).waits(0, 1), urgency);
        }
        CHECK.refused(() -> typed("say0#0"), "obey() of say0#0", DeafChain::obey, Check.ARGUMENT);
        CHECK.refused(() -> typed("say0#10"), "obey() of say0#10", DeafChain::obey, Check.ARGUMENT);
    }

    private static void eightWait() {
        DeafChain chain = new DeafChain();
        for (int count = 1; count <= 8; count++) {
            CHECK.equal("obey()", Check.obey(chain, "say" + count), 1);
            CHECK.equal("how many wait", chain.count(0), count);
        }
        CHECK.equal("obey() of a ninth", Check.obey(chain, "say9#9"), 0);
        CHECK.equal("how many wait still", chain.count(0), 8);
        CHECK.equal("the first one is still the first", chain.waits(0, 2), 1);
        CHECK.equal("the last one is still the last", chain.waits(7, 2), 8);
        CHECK.equal("one goes, another comes", Check.obey(chain, "go;say9"), 2);
        CHECK.equal("how many wait then", chain.count(0), 8);
        CHECK.equal("the last one then", chain.waits(7, 2), 9);
    }

    private static void orderIs(DeafChain chain, int... due) {
        CHECK.equal("how many wait", chain.count(0), due.length);
        for (int place = 0; place < due.length; place++) {
            CHECK.equal("the first word of the place " + place, chain.waits(place, 2), due[place]);
        }
        for (int place = 0; place < due.length; place++) {
            chain.go();
            CHECK.equalText("told of the one that goes as number " + place, Check.told(chain, 0), Integer.toString(due[place]));
        }
    }

    private static void greatestFirst() {
        orderIs(waiting("say1#1;say2#2;say3#3;say4#4;say5#5;say6#6;say7#7;say8#8"), 8, 7, 6, 5, 4, 3, 2, 1);
        orderIs(waiting("say1#9;say2#8;say3#7;say4#6;say5#5;say6#4;say7#3;say8#2"), 1, 2, 3, 4, 5, 6, 7, 8);
        orderIs(waiting("say1;say2#9;say3#2;say4#8"), 2, 4, 3, 1);
        orderIs(waiting("say8#8;say9#9"), 9, 8);
    }

    private static void firstOfSeveral() {
        orderIs(waiting("say8;say7;say6;say5;say4;say3;say2;say1"), 8, 7, 6, 5, 4, 3, 2, 1);
        orderIs(waiting("say8#9;say7#9;say6#9;say5#9;say4#9;say3#9;say2#9;say1#9"), 8, 7, 6, 5, 4, 3, 2, 1);
        orderIs(waiting("say9#2;say5#3;say8#2;say4#3;say7#2"), 5, 4, 9, 8, 7);
        orderIs(waiting("say1#5;say2#5;go;say3#5;say4#6"), 4, 2, 3);
    }

    private static void oneGoes() {
        DeafChain chain = waiting("say10,29,7;say1,2,3,4,5#2");
        for (int link = 0; link < 6; link++) {
            chain.fee(link, link + 4);
        }
        chain.ear(0, 4);
        CHECK.equal("go() of the second", chain.go(), 4);
        CHECK.equal("one waits", chain.count(0), 1);
        CHECK.equal("one went", chain.count(1), 1);
        CHECK.equal("one arrived", chain.count(2), 1);
        for (int link = 0; link < 6; link++) {
            CHECK.equal("paid to the link " + link, chain.link(link, 5), 4 * (link + 4));
        }
        CHECK.equal("go() of the first", chain.go(), 3);
        CHECK.equal("none waits", chain.count(0), 0);
        CHECK.equal("two went", chain.count(1), 2);
        CHECK.equal("all that was paid", chain.count(4), 7 * 39);
        CHECK.equal("paid for the latest", chain.arrival(0, 2), 3 * 39);
        CHECK.equal("paid for the one before", chain.arrival(1, 2), 4 * 39);
    }

    private static void sixArrivals() {
        DeafChain chain = new DeafChain();
        chain.ear(3, 1);
        for (int went = 1; went <= 13; went++) {
            Check.obey(chain, "say" + went + (went % 2 == 0 ? ",0" : "") + ";go");
            CHECK.equal("how many are kept", chain.count(2), Math.min(went, 6));
            CHECK.equal("how many went", chain.count(1), went);
            for (int back = 0; back < 6; back++) {
                boolean kept = back < went;
                CHECK.equalText("told " + back + " behind " + went, Check.told(chain, back), kept ? "" + (went - back) : "");
                CHECK.equal("sent of " + back, chain.arrival(back, 5), kept ? 2 - (went - back) % 2 : -1);
            }
        }
    }

    private static void lostSoFar() {
        DeafChain chain = new DeafChain();
        chain.teach(5, 8, DeafChain.NONE);
        Check.obey(chain, "say8");
        CHECK.lostIs(chain, 0, 0, 0);
        chain.go();
        CHECK.lostIs(chain, 0, 8, 1);
        chain.teach(5, 8, 8);
        Check.obey(chain, "say8;go");
        CHECK.lostIs(chain, 0, 8, 1);
        chain.teach(0, 9, 8);
        Check.obey(chain, "say8;go;say9;go;say9,8;go");
        CHECK.lostIs(chain, 0, 9, 2);
        CHECK.lostIs(chain, 1, 8, 1);
        CHECK.lostIs(chain, 2, 0, 0);
    }

    private static void unlikeWords() {
        DeafChain chain = new DeafChain();
        chain.teach(2, 0, DeafChain.NONE);
        chain.teach(2, 29, DeafChain.NONE);
        Check.obey(chain, "say0,0,0,0,0,0,0,0,0,0,0,0;go");
        CHECK.lostIs(chain, 0, 0, 1);
        Check.obey(chain, "say29,0,29,1,0,29,2,2,29,29,0,29;go");
        CHECK.lostIs(chain, 0, 0, 2);
        CHECK.lostIs(chain, 1, 29, 1);
        CHECK.lostIs(chain, 2, 1, 0);
        Check.obey(chain, "say1,2,3,4,5,6,7,8,9,10,11,29;go");
        CHECK.lostIs(chain, 0, 0, 2);
        CHECK.lostIs(chain, 1, 29, 2);
        CHECK.lostIs(chain, 2, 1, 0);
    }

    private static void lostAlone() {
        DeafChain chain = new DeafChain();
        chain.ear(0, 1);
        chain.teach(5, 6, DeafChain.NONE);
        chain.teach(1, 9, 6);
        Check.obey(chain, "say1,2,3,4;go");
        CHECK.equal("the loss by an ear", chain.arrival(0, 3), 0);
        CHECK.lostIs(chain, 0, 0, 0);
        Check.obey(chain, "say1,6;go");
        CHECK.equalText("the word 6 was missed", Check.told(chain, 0), "1");
        CHECK.lostIs(chain, 0, 6, 1);
        Check.obey(chain, "say9,9;go");
        CHECK.lostIs(chain, 0, 6, 1);
        CHECK.lostIs(chain, 1, 9, 1);
    }

    private static void wordsThatArrive() {
        DeafChain chain = waiting("say3;say1,2,3,4,5,6,7,8,9,10,11,12;say3,4,5");
        chain.teach(0, 3, DeafChain.NONE);
        CHECK.equal("go() of one word, a mumble", chain.go(), 1);
        CHECK.equal("go() of twelve words", chain.go(), 12);
        chain.ear(5, 1);
        CHECK.equal("go() of three words, one is missed", chain.go(), 2);
    }

    private static void arrivedAndSent() {
        DeafChain chain = new DeafChain();
        chain.teach(1, 9, DeafChain.NONE);
        Check.obey(chain, "say1,9;go;ear0=1;say1,9;say9,1,9,1,9,1,9,1,9,1,9,1;go;go");
        int[][] due = {{6, 6, 12}, {1, 0, 2}, {2, 1, 2}};
        for (int back = 0; back < 3; back++) {
            CHECK.equal("arrival(" + back + ", 0)", chain.arrival(back, 0), due[back][0]);
            CHECK.equal("arrival(" + back + ", 1)", chain.arrival(back, 1), due[back][1]);
            CHECK.equal("arrival(" + back + ", 5)", chain.arrival(back, 5), due[back][2]);
        }
        Check.obey(chain, "ear0=0;say9,9,9,9,9,9,9,9,9,9,9,9;go");
        CHECK.equal("twelve mumbles", chain.arrival(0, 1), 12);
        Check.obey(chain, "ear5=1;say1,2;go");
        CHECK.equal("no mumble behind twelve", chain.arrival(0, 1), 0);
    }

    private static void waitsNumbers(DeafChain chain, int place, int length, int urgency, int word) {
        int[] due = {length, urgency, word};
        for (int what = 0; what < 3; what++) {
            CHECK.equal("waits(" + place + ", " + what + ")", chain.waits(place, what), due[what]);
        }
    }

    private static void notSoManyWait() {
        waitsNumbers(new DeafChain(), 0, -1, -1, -1);
        DeafChain chain = waiting("say29,1;say28#9");
        waitsNumbers(chain, 0, 1, 9, 28);
        waitsNumbers(chain, 1, 2, 1, 29);
        waitsNumbers(chain, 2, -1, -1, -1);
        waitsNumbers(chain, 8, -1, -1, -1);
        Check.obey(chain, "say3;say4;say5;say6;say7;say0,8,9");
        waitsNumbers(chain, 7, 3, 1, 0);
        waitsNumbers(chain, 8, -1, -1, -1);
        waitsNumbers(chain, Integer.MAX_VALUE, -1, -1, -1);
        chain.go();
        waitsNumbers(chain, 6, 3, 1, 0);
        waitsNumbers(chain, 7, -1, -1, -1);
    }

    private static void arrivalNumbers(DeafChain chain, int back, int... due) {
        for (int what = 0; what < 6; what++) {
            CHECK.equal("arrival(" + back + ", " + what + ")", chain.arrival(back, what), due.length == 0 ? -1 : due[what]);
        }
    }

    private static void notSoManyArrivals() {
        DeafChain chain = new DeafChain();
        arrivalNumbers(chain, 0);
        arrivalNumbers(chain, 5);
        chain.teach(4, 3, DeafChain.NONE);
        chain.ear(5, 2);
        Check.obey(chain, "say3,2,3;go");
        arrivalNumbers(chain, 0, 2, 1, 17, 4, 4, 3);
        arrivalNumbers(chain, 1);
        Check.obey(chain, "say1;say2;say4;say5;go;go;go;go");
        arrivalNumbers(chain, 4, 2, 1, 17, 4, 4, 3);
        arrivalNumbers(chain, 5);
        Check.obey(chain, "say6;go");
        arrivalNumbers(chain, 5, 2, 1, 17, 4, 4, 3);
        Check.obey(chain, "say7;go");
        arrivalNumbers(chain, 5, 1, 0, 6, -1, -1, 1);
    }

    private static void lossOrNone() {
        DeafChain chain = new DeafChain();
        chain.teach(0, 3, DeafChain.NONE);
        chain.teach(5, 4, DeafChain.NONE);
        Check.obey(chain, "say3;go;say4;go;say5;go");
        int[] due = {-1, 5, 0};
        for (int back = 0; back < 3; back++) {
            CHECK.equal("arrival(" + back + ", 3)", chain.arrival(back, 3), due[back]);
            CHECK.equal("arrival(" + back + ", 4)", chain.arrival(back, 4), due[back]);
        }
    }

    private static void textsEnd() {
        String[] texts = {"0", "29", "1,2", "10,0", TEN_TO_TWENTY_ONE, "0,1,2,3,4,5,6,7,8,9,0,1"};
        for (String text : texts) {
            DeafChain chain = waiting("say" + text + ";go");
            int length = text.length();
            CHECK.equal("the first character of " + text, chain.told(0, 0), text.charAt(0));
            CHECK.equal("the last character of " + text, chain.told(0, length - 1), text.charAt(length - 1));
            CHECK.equal("the one behind it", chain.told(0, length), -1);
            CHECK.equal("the second behind it", chain.told(0, length + 1), -1);
            CHECK.equal("the character 35", chain.told(0, 35), -1);
            CHECK.equal("the greatest index", chain.told(0, Integer.MAX_VALUE), -1);
        }
    }

    private static void notSoManyTexts() {
        DeafChain chain = new DeafChain();
        for (int went = 0; went <= 7; went++) {
            for (int back = 0; back < 6; back++) {
                CHECK.equal("told(" + back + ", 0) behind " + went, chain.told(back, 0), back < went ? '0' + went - back : -1);
            }
            Check.obey(chain, "say" + (went + 1) + ";go");
        }
    }

    private static void texts() {
        DeafChain chain = new DeafChain();
        chain.teach(3, 3, DeafChain.NONE);
        String[] words = {"3", "3,3", "9,10", "10,9", "3,29", "29,3", "19,3,20,3,0", "3,3,3,3,3,3,3,3,3,3,3,3", TEN_TO_TWENTY_ONE};
        for (String text : words) {
            Check.obey(chain, "say" + text + ";go");
            String due = text.replaceAll("\\b3\\b", "?");
            for (int index = 0; index < due.length(); index++) {
                CHECK.equal("the character " + index + " of " + due, chain.told(0, index), due.charAt(index));
            }
        }
    }
}
