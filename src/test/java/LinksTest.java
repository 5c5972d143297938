/** Promises 1 to 4, 15 and 16: a new object, teach, ear, fee, and the looks at links. */
public final class LinksTest {
    private static final Check CHECK = new Check();

    public static void main(String[] args) {
        newObject();
        teaching();
        ears();
        fees();
        meanings();
        numbersOfLinks();
        CHECK.end();
    }

    private static void newObject() {
        CHECK.equal("NONE", DeafChain.NONE, -1);
        for (int link = 0; link < 6; link++) {
            newLink(new DeafChain(), link);
        }
        DeafChain chain = new DeafChain();
        for (int what = 0; what < 7; what++) {
            CHECK.equal("new count(" + what + ")", chain.count(what), 0);
        }
        CHECK.equal("new buffer", chain.clearBuffer(), 0);
        CHECK.equal("new stop", chain.stopped(0), -1);
        CHECK.equal("new reason", chain.stopped(1), -1);
        CHECK.refused(chain, "restore() of a new object", chain::restore, Check.STATE);
        CHECK.refused(chain, "undo() of a new object", chain::undo, Check.STATE);
    }

    private static void newLink(DeafChain chain, int link) {
        for (int what = 0; what < 7; what++) {
            CHECK.equal("new link(" + link + ", " + what + ")", chain.link(link, what), what == 1 ? 1 : 0);
        }
        for (int word = 0; word < 30; word++) {
            for (int what = 0; what < 3; what++) {
                CHECK.equal("new meaning", chain.meaning(link, word, what), word);
            }
        }
    }

    private static void teaching() {
        DeafChain chain = new DeafChain();
        CHECK.equal("teach(0, 0, 29)", chain.teach(0, 0, 29), 0);
        CHECK.equal("teach(0, 0, NONE)", chain.teach(0, 0, -1), 29);
        CHECK.equal("teach(0, 0, 0)", chain.teach(0, 0, 0), -1);
        CHECK.equal("teach(5, 29, 0)", chain.teach(5, 29, 0), 29);
        CHECK.equal("meaning(5, 29, 0)", chain.meaning(5, 29, 0), 0);
        CHECK.equal("meaning(4, 29, 0)", chain.meaning(4, 29, 0), 29);
        CHECK.equal("count(6)", chain.count(6), 4);
        CHECK.equal("teach(5, 29, 0) again", chain.teach(5, 29, 0), 0);
        CHECK.equal("count(6), though nothing changed,", chain.count(6), 5);
        CHECK.refused(chain, "teach(-1, 0, 0)", () -> chain.teach(-1, 0, 0), Check.INDEX);
        CHECK.refused(chain, "teach(6, 30, 30)", () -> chain.teach(6, 30, 30), Check.INDEX);
        CHECK.refused(chain, "teach(0, -1, 0)", () -> chain.teach(0, -1, 0), Check.ARGUMENT);
        CHECK.refused(chain, "teach(0, 30, 0)", () -> chain.teach(0, 30, 0), Check.ARGUMENT);
        CHECK.refused(chain, "teach(0, 0, -2)", () -> chain.teach(0, 0, -2), Check.ARGUMENT);
        CHECK.refused(chain, "teach(0, 0, 30)", () -> chain.teach(0, 0, 30), Check.ARGUMENT);
    }

    private static void ears() {
        DeafChain chain = new DeafChain();
        CHECK.equal("ear(0, 9)", chain.ear(0, 9), 0);
        CHECK.equal("ear(0, 0)", chain.ear(0, 0), 9);
        CHECK.equal("ear(5, 3)", chain.ear(5, 3), 0);
        CHECK.equal("link(5, 0)", chain.link(5, 0), 3);
        CHECK.equal("count(6)", chain.count(6), 3);
        CHECK.refused(chain, "ear(-1, 10)", () -> chain.ear(-1, 10), Check.INDEX);
        CHECK.refused(chain, "ear(6, 0)", () -> chain.ear(6, 0), Check.INDEX);
        CHECK.refused(chain, "ear(0, -1)", () -> chain.ear(0, -1), Check.ARGUMENT);
        CHECK.refused(chain, "ear(0, 10)", () -> chain.ear(0, 10), Check.ARGUMENT);
    }

    private static void fees() {
        DeafChain chain = new DeafChain();
        CHECK.equal("fee(0, 9)", chain.fee(0, 9), 1);
        CHECK.equal("fee(0, 0)", chain.fee(0, 0), 9);
        CHECK.equal("fee(5, 3)", chain.fee(5, 3), 1);
        CHECK.equal("link(5, 1)", chain.link(5, 1), 3);
        CHECK.equal("count(6)", chain.count(6), 3);
        CHECK.refused(chain, "fee(-1, 10)", () -> chain.fee(-1, 10), Check.INDEX);
        CHECK.refused(chain, "fee(6, 0)", () -> chain.fee(6, 0), Check.INDEX);
        CHECK.refused(chain, "fee(0, -1)", () -> chain.fee(0, -1), Check.ARGUMENT);
        CHECK.refused(chain, "fee(0, 10)", () -> chain.fee(0, 10), Check.ARGUMENT);
    }

    private static void meanings() {
        DeafChain chain = new DeafChain();
        chain.teach(2, 7, 3);
        chain.teach(2, 9, -1);
        CHECK.equal("meaning(2, 7, 0)", chain.meaning(2, 7, 0), 3);
        CHECK.equal("meaning(2, 7, 1)", chain.meaning(2, 7, 1), 3);
        CHECK.equal("meaning(2, 7, 2)", chain.meaning(2, 7, 2), 30);
        CHECK.equal("meaning(2, 3, 1)", chain.meaning(2, 3, 1), 3);
        CHECK.equal("meaning(2, 3, 2)", chain.meaning(2, 3, 2), 3);
        CHECK.equal("meaning(2, 9, 0)", chain.meaning(2, 9, 0), -1);
        CHECK.equal("meaning(2, 9, 1)", chain.meaning(2, 9, 1), 30);
        CHECK.equal("meaning(2, 9, 2)", chain.meaning(2, 9, 2), 30);
        chain.teach(2, 1, 3);
        CHECK.equal("meaning(2, 3, 1), a lower word has it,", chain.meaning(2, 3, 1), 1);
        CHECK.equal("meaning(2, 3, 2), a lower word has it,", chain.meaning(2, 3, 2), 1);
        CHECK.refused(chain, "meaning(-1, 0, 0)", () -> chain.meaning(-1, 0, 0), Check.INDEX);
        CHECK.refused(chain, "meaning(6, -1, 3)", () -> chain.meaning(6, -1, 3), Check.INDEX);
        CHECK.refused(chain, "meaning(0, -1, 0)", () -> chain.meaning(0, -1, 0), Check.ARGUMENT);
        CHECK.refused(chain, "meaning(0, 30, 0)", () -> chain.meaning(0, 30, 0), Check.ARGUMENT);
        CHECK.refused(chain, "meaning(0, 0, -1)", () -> chain.meaning(0, 0, -1), Check.ARGUMENT);
        CHECK.refused(chain, "meaning(0, 0, 3)", () -> chain.meaning(0, 0, 3), Check.ARGUMENT);
    }

    private static void numbersOfLinks() {
        DeafChain chain = new DeafChain();
        chain.teach(1, 5, -1);
        chain.teach(1, 6, -1);
        chain.teach(1, 20, 2);
        chain.teach(1, 21, 2);
        chain.teach(1, 0, 29);
        chain.ear(1, 2);
        chain.fee(1, 4);
        Check.obey(chain, "say1,2,3,4,5,6,7;go;say5;go;say1;go;go");
        long[] due = {2, 4, 2, 3, 2, 28, 2};
        for (int what = 0; what < 7; what++) {
            CHECK.equal("link(1, " + what + ")", chain.link(1, what), due[what]);
        }
        CHECK.equal("link(0, 4)", chain.link(0, 4), 0);
        CHECK.equal("link(0, 5)", chain.link(0, 5), 9);
        CHECK.equal("link(2, 5), mumbles are paid too,", chain.link(2, 5), 7);
        CHECK.equal("link(2, 6)", chain.link(2, 6), 0);
        chain.teach(3, 0, -1);
        chain.teach(3, 29, -1);
        CHECK.equal("link(3, 2), the first word and the last one,", chain.link(3, 2), 2);
        CHECK.equal("link(3, 3)", chain.link(3, 3), 0);
        chain.teach(3, 29, 1);
        CHECK.equal("link(3, 3), the last word,", chain.link(3, 3), 1);
        CHECK.refused(chain, "link(-1, 7)", () -> chain.link(-1, 7), Check.INDEX);
        CHECK.refused(chain, "link(6, 0)", () -> chain.link(6, 0), Check.INDEX);
        CHECK.refused(chain, "link(0, -1)", () -> chain.link(0, -1), Check.ARGUMENT);
        CHECK.refused(chain, "link(0, 7)", () -> chain.link(0, 7), Check.ARGUMENT);
    }
}
