/** Promises 21 to 25: ifGone, lostAt, worstEar, costs, throughShare. */
public final class TrialsTest {
    private static final Check CHECK = new Check();

    public static void main(String[] args) {
        trialsOfGoing();
        placesOfLoss();
        worstEars();
        costs();
        shares();
        CHECK.end();
    }

    private static void trialsOfGoing() {
        DeafChain chain = new DeafChain();
        CHECK.equal("ifGone(0, 0) without a sentence", chain.ifGone(0, 0), -1);
        CHECK.equal("ifGone(5, 3) without a sentence", chain.ifGone(5, 3), -1);
        chain.teach(0, 4, -1);
        chain.teach(2, 5, -1);
        chain.ear(1, 2);
        chain.fee(1, 7);
        Check.obey(chain, "say9;say4,5,6,7,8#2");
        long[][] due = {{5, 1, 5, 0}, {4, 1, 28, 1}, {4, 2, 4, 0}, {4, 2, 4, 0}, {4, 2, 4, 0}, {4, 2, 4, 0}};
        long before = chain.digest();
        for (int link = 0; link < 6; link++) {
            for (int what = 0; what < 4; what++) {
                CHECK.equal("ifGone(" + link + ", " + what + ")", chain.ifGone(link, what), due[link][what]);
            }
        }
        CHECK.equal("nothing is changed", chain.digest(), before);
        CHECK.refused(chain, "ifGone(-1, 4)", () -> chain.ifGone(-1, 4), Check.INDEX);
        CHECK.refused(chain, "ifGone(6, 0)", () -> chain.ifGone(6, 0), Check.INDEX);
        CHECK.refused(chain, "ifGone(0, -1)", () -> chain.ifGone(0, -1), Check.ARGUMENT);
        CHECK.refused(chain, "ifGone(0, 4)", () -> chain.ifGone(0, 4), Check.ARGUMENT);
        DeafChain empty = new DeafChain();
        CHECK.refused(empty, "ifGone(0, 4) without a sentence", () -> empty.ifGone(0, 4), Check.ARGUMENT);
        CHECK.refused(empty, "ifGone(6, 0) without a sentence", () -> empty.ifGone(6, 0), Check.INDEX);
    }

    private static void placesOfLoss() {
        DeafChain chain = new DeafChain();
        for (int link = 0; link < 6; link++) {
            chain.ear(link, 1);
        }
        CHECK.equal("lostAt(3), whatever the ears,", chain.lostAt(3), -1);
        chain.teach(0, 3, 10);
        CHECK.equal("lostAt(3), a lower meaning than that of 10,", chain.lostAt(3), -1);
        CHECK.equal("lostAt(10)", chain.lostAt(10), 0);
        chain.teach(4, 10, -1);
        CHECK.equal("lostAt(3), as 10 in the link 4,", chain.lostAt(3), 4);
        CHECK.equal("lostAt(10), the first link,", chain.lostAt(10), 0);
        chain.teach(5, 29, 0);
        CHECK.equal("lostAt(29)", chain.lostAt(29), 5);
        CHECK.equal("lostAt(0)", chain.lostAt(0), -1);
        CHECK.refused(chain, "lostAt(-1)", () -> chain.lostAt(-1), Check.ARGUMENT);
        CHECK.refused(chain, "lostAt(30)", () -> chain.lostAt(30), Check.ARGUMENT);
    }

    private static void worstEars() {
        DeafChain chain = new DeafChain();
        chain.ear(3, 1);
        CHECK.equal("worstEar() without a sentence", chain.worstEar(), -1);
        Check.obey(chain, "say1");
        CHECK.equal("worstEar() of one word", chain.worstEar(), -1);
        chain.undo();
        Check.obey(chain, "say1,2,3,4,5,6,7,8");
        CHECK.equal("worstEar() of one ear", chain.worstEar(), 3);
        chain.ear(1, 1);
        CHECK.equal("worstEar() of two like ears", chain.worstEar(), 1);
        chain.ear(1, 2);
        CHECK.equal("worstEar() of 2 and 1", chain.worstEar(), 3);
        chain.ear(3, 9);
        chain.ear(5, 6);
        CHECK.equal("worstEar() of 2, 9 and 6", chain.worstEar(), 1);
        chain.ear(0, 1);
        CHECK.equal("worstEar() of the first link", chain.worstEar(), 0);
        CHECK.equal("the ear stays", chain.link(1, 0), 2);
    }

    private static void costs() {
        DeafChain chain = new DeafChain();
        CHECK.equal("costs() of none", chain.costs(), 0);
        Check.obey(chain, "say1,2,3;say4");
        CHECK.equal("costs()", chain.costs(), 24);
        chain.ear(2, 1);
        chain.fee(2, 5);
        chain.fee(3, 0);
        chain.teach(0, 1, -1);
        CHECK.equal("costs()", chain.costs(), 3 + 3 + 10 + 0 + 2 + 2 + 1 + 1 + 5 + 0 + 1 + 1);
        long paid = chain.count(4);
        int due = chain.costs();
        Check.obey(chain, "go;go");
        CHECK.equal("what was paid then", chain.count(4) - paid, due);
        CHECK.equal("costs() of none", chain.costs(), 0);
    }

    private static void shareIs(DeafChain chain, double due) {
        CHECK.equalText("throughShare()", Double.toString(chain.throughShare()), Double.toString(due));
    }

    private static void shares() {
        DeafChain chain = new DeafChain();
        shareIs(chain, 1.0);
        chain.teach(0, 0, -1);
        Check.obey(chain, "say0;go");
        shareIs(chain, 0.0);
        Check.obey(chain, "say1;go;say2;go");
        shareIs(chain, 2.0 / 3.0);
        chain.undo();
        shareIs(chain, 0.0);
        chain.undo();
        shareIs(chain, 1.0);
        Check.obey(chain, "say1;go");
        shareIs(chain, 1.0);
    }
}
