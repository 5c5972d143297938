/** Promises 5, 11 and 17 to 20: go, and the looks at sentences, arrivals, counts and losses. */
public final class GoingTest {
    private static final Check CHECK = new Check();

    public static void main(String[] args) {
        going();
        orderOfWaiting();
        ears();
        earsOfMumbles();
        lossByMeaning();
        arrivalsAreKept();
        toldTexts();
        counts();
        lostWords();
        CHECK.end();
    }

    private static void arrivalIs(DeafChain chain, int back, long... due) {
        for (int what = 0; what < due.length; what++) {
            CHECK.equal("arrival(" + back + ", " + what + ")", chain.arrival(back, what), due[what]);
        }
    }

    private static void going() {
        DeafChain chain = new DeafChain();
        CHECK.refused(chain, "go() without a sentence", chain::go, Check.STATE);
        Check.obey(chain, "say0,1,2,3,4,5,6,7,8,9,10,29");
        CHECK.equal("go() of 12 words", chain.go(), 12);
        CHECK.equal("count(6) behind go()", chain.count(6), 2);
        CHECK.equalText("told", Check.told(chain, 0), "0,1,2,3,4,5,6,7,8,9,10,29");
        arrivalIs(chain, 0, 12, 0, 72, -1, -1, 12);
        CHECK.refused(chain, "go() again", chain::go, Check.STATE);
    }

    private static void orderOfWaiting() {
        DeafChain chain = new DeafChain();
        Check.obey(chain, "say1;say2,2#9;say3,3,3#5;say4,4;say5#9;say6#5;say7#2;say8#1");
        int[] words = {2, 5, 3, 6, 7, 1, 4, 8};
        int[] urgencies = {9, 9, 5, 5, 2, 1, 1, 1};
        int[] lengths = {2, 1, 3, 1, 1, 1, 2, 1};
        for (int place = 0; place < 8; place++) {
            CHECK.equal("waits(" + place + ", 0)", chain.waits(place, 0), lengths[place]);
            CHECK.equal("waits(" + place + ", 1)", chain.waits(place, 1), urgencies[place]);
            CHECK.equal("waits(" + place + ", 2)", chain.waits(place, 2), words[place]);
        }
        CHECK.equal("waits(8, 2)", chain.waits(8, 2), -1);
        CHECK.equal("waits(the greatest, 0)", chain.waits(Integer.MAX_VALUE, 0), -1);
        for (int place = 0; place < 8; place++) {
            CHECK.equal("go()", chain.go(), lengths[place]);
            CHECK.equal("first character told", chain.told(0, 0), '0' + words[place]);
            CHECK.equal("count(0)", chain.count(0), 7 - place);
        }
        CHECK.equal("waits(0, 0)", chain.waits(0, 0), -1);
        CHECK.refused(chain, "waits(-1, 0)", () -> chain.waits(-1, 0), Check.ARGUMENT);
        CHECK.refused(chain, "waits(0, -1)", () -> chain.waits(0, -1), Check.ARGUMENT);
        CHECK.refused(chain, "waits(8, 3)", () -> chain.waits(8, 3), Check.ARGUMENT);
    }

    private static void ears() {
        DeafChain chain = new DeafChain();
        chain.ear(1, 2);
        chain.ear(4, 1);
        chain.fee(1, 0);
        chain.fee(4, 5);
        Check.obey(chain, "say1,2,3,4,5,6,7;go");
        CHECK.equalText("told", Check.told(chain, 0), "1,4,7");
        arrivalIs(chain, 0, 3, 0, 7 + 0 + 5 + 5 + 15 + 3, 1, 1, 7);
        CHECK.equal("link(1, 4)", chain.link(1, 4), 2);
        CHECK.equal("link(4, 4)", chain.link(4, 4), 2);
        CHECK.equal("link(4, 6), as it was lost before,", chain.link(4, 6), 0);
        chain.ear(1, 9);
        chain.ear(4, 0);
        Check.obey(chain, "say1,2,3,4,5,6,7,8,9;go");
        CHECK.equal("nine words pass the ear 9", chain.arrival(0, 3), -1);
        Check.obey(chain, "say1,2,3,4,5,6,7,8,9,10,11;go");
        CHECK.equalText("told", Check.told(chain, 0), "1,2,3,4,5,6,7,8,9,11");
        CHECK.equal("the tenth is lost", chain.arrival(0, 4), 1);
    }

    private static void earsOfMumbles() {
        DeafChain chain = new DeafChain();
        chain.teach(0, 8, -1);
        chain.ear(2, 1);
        Check.obey(chain, "say8,8,3,8;go");
        CHECK.equalText("told", Check.told(chain, 0), "?,3");
        arrivalIs(chain, 0, 2, 1, 4 + 4 + 2 + 2 + 2 + 2, 0, 0, 4);
        CHECK.equal("link(2, 4)", chain.link(2, 4), 2);
        CHECK.equal("link(0, 6)", chain.link(0, 6), 1);
    }

    private static void lossByMeaning() {
        DeafChain chain = new DeafChain();
        chain.teach(3, 4, 6);
        Check.obey(chain, "say4;go;say6;go;say4,6;go");
        CHECK.equal("the lower word is not lost", chain.arrival(2, 3), -1);
        CHECK.equal("the lower word comes back", chain.arrival(2, 4), -1);
        CHECK.equal("the higher word is lost", chain.arrival(1, 3), 3);
        CHECK.equal("the higher word does not come back", chain.arrival(1, 4), 3);
        CHECK.equalText("told", Check.told(chain, 0), "6,6");
        CHECK.equal("one of both is lost", chain.arrival(0, 3), 3);
        chain.teach(0, 20, 21);
        chain.teach(0, 21, 20);
        chain.teach(2, 20, -1);
        Check.obey(chain, "say20;go;say21;go");
        CHECK.equalText("told of 20, that is 21 then", Check.told(chain, 1), "21");
        CHECK.equal("20 comes through", chain.arrival(1, 3), -1);
        CHECK.equal("20 comes back over two links", chain.arrival(1, 4), -1);
        CHECK.equalText("told of 21, that is 20 then", Check.told(chain, 0), "?");
        arrivalIs(chain, 0, 1, 1, 6, 2, 2, 1);
    }

    private static void arrivalsAreKept() {
        DeafChain chain = new DeafChain();
        CHECK.equal("arrival(0, 0) without one", chain.arrival(0, 0), -1);
        for (int word = 1; word <= 8; word++) {
            Check.obey(chain, "say" + word + ";go");
            CHECK.equal("count(2)", chain.count(2), Math.min(word, 6));
        }
        for (int back = 0; back < 6; back++) {
            CHECK.equalText("told " + back, Check.told(chain, back), Integer.toString(8 - back));
        }
        CHECK.equal("count(1)", chain.count(1), 8);
        CHECK.refused(chain, "arrival(-1, 0)", () -> chain.arrival(-1, 0), Check.ARGUMENT);
        CHECK.refused(chain, "arrival(6, 0)", () -> chain.arrival(6, 0), Check.ARGUMENT);
        CHECK.refused(chain, "arrival(0, -1)", () -> chain.arrival(0, -1), Check.ARGUMENT);
        CHECK.refused(chain, "arrival(0, 6)", () -> chain.arrival(0, 6), Check.ARGUMENT);
    }

    private static void toldTexts() {
        DeafChain chain = new DeafChain();
        chain.teach(5, 3, -1);
        CHECK.equal("told(5, 0) without an arrival", chain.told(5, 0), -1);
        Check.obey(chain, "say10,3,9,29,3;go");
        CHECK.equalText("told", Check.told(chain, 0), "10,?,9,29,?");
        CHECK.equal("told(0, 11)", chain.told(0, 11), -1);
        CHECK.equal("told(0, the greatest)", chain.told(0, Integer.MAX_VALUE), -1);
        CHECK.equal("told(1, 0)", chain.told(1, 0), -1);
        Check.obey(chain, "say10,11,12,13,14,15,16,17,18,19,20,21;go");
        CHECK.equalText("the longest text", Check.told(chain, 0), "10,11,12,13,14,15,16,17,18,19,20,21");
        CHECK.refused(chain, "told(-1, 0)", () -> chain.told(-1, 0), Check.ARGUMENT);
        CHECK.refused(chain, "told(6, 0)", () -> chain.told(6, 0), Check.ARGUMENT);
        CHECK.refused(chain, "told(0, -1)", () -> chain.told(0, -1), Check.ARGUMENT);
    }

    private static void counts() {
        DeafChain chain = new DeafChain();
        chain.ear(0, 1);
        chain.ear(3, 1);
        chain.fee(2, 3);
        Check.obey(chain, "say1,2,3,4;say5#2;say6,7;go;go");
        long[] due = {1, 2, 2, 1, 8 + 2 + 2 + 6 + 1 + 1 + 1, 3, 4};
        for (int what = 0; what < 7; what++) {
            CHECK.equal("count(" + what + ")", chain.count(what), due[what]);
        }
        CHECK.refused(chain, "count(-1)", () -> chain.count(-1), Check.ARGUMENT);
        CHECK.refused(chain, "count(7)", () -> chain.count(7), Check.ARGUMENT);
    }

    private static void lostWords() {
        DeafChain chain = new DeafChain();
        for (int place = 0; place < 30; place++) {
            CHECK.lostIs(chain, place, place, 0);
        }
        chain.teach(1, 7, -1);
        chain.teach(2, 9, 8);
        chain.ear(0, 1);
        Check.obey(chain, "say7,7,9,1;go;say9,7;go;say28,29;go");
        CHECK.equal("28, 29 has a loss by the ear", chain.arrival(0, 3), 0);
        CHECK.lostIs(chain, 0, 7, 2);
        CHECK.lostIs(chain, 1, 9, 2);
        CHECK.lostIs(chain, 2, 0, 0);
        CHECK.lostIs(chain, 8, 6, 0);
        CHECK.lostIs(chain, 9, 8, 0);
        CHECK.lostIs(chain, 29, 29, 0);
        chain.teach(1, 29, -1);
        chain.ear(0, 0);
        Check.obey(chain, "say29;go;say9;go");
        CHECK.lostIs(chain, 0, 9, 3);
        CHECK.lostIs(chain, 1, 7, 2);
        CHECK.lostIs(chain, 2, 29, 1);
        CHECK.lostIs(chain, 3, 0, 0);
        chain.teach(4, 0, -1);
        Check.obey(chain, "say0,5;go");
        CHECK.lostIs(chain, 2, 0, 1);
        CHECK.lostIs(chain, 3, 29, 1);
        CHECK.lostIs(chain, 4, 1, 0);
        chain.teach(1, 7, 7);
        CHECK.equal("what was lost stays counted", chain.lost(1, 1), 2);
        CHECK.refused(chain, "lost(-1, 0)", () -> chain.lost(-1, 0), Check.ARGUMENT);
        CHECK.refused(chain, "lost(30, 0)", () -> chain.lost(30, 0), Check.ARGUMENT);
        CHECK.refused(chain, "lost(0, -1)", () -> chain.lost(0, -1), Check.ARGUMENT);
        CHECK.refused(chain, "lost(0, 2)", () -> chain.lost(0, 2), Check.ARGUMENT);
    }
}
