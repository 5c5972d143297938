/** What README.md tells of the use of the class. */
public final class ReadmeTest {
    private static final Check CHECK = new Check();

    public static void main(String[] args) {
        CHECK.holds("README.md, the example", ReadmeTest::example);
        CHECK.holds("README.md, the orders", ReadmeTest::orders);
        CHECK.holds("README.md, undo takes back each of these", ReadmeTest::takenBack);
        CHECK.end();
    }

    private static void example() {
        DeafChain chain = new DeafChain();
        chain.ear(1, 3);
        chain.teach(4, 5, DeafChain.NONE);
        String text = "say1,2,5,4#3;go";
        for (int index = 0; index < text.length(); index++) {
            chain.append(text.charAt(index));
        }
        CHECK.equal("firstError()", chain.firstError(), 15);
        CHECK.equal("obey()", chain.obey(), 2);
        CHECK.equal("arrival(0, 0)", chain.arrival(0, 0), 3);
        CHECK.equal("arrival(0, 3)", chain.arrival(0, 3), 1);
        CHECK.equal("told(0, 0)", chain.told(0, 0), '1');
        CHECK.equalText("the arrival", Check.told(chain, 0), "1,2,?");
        CHECK.equal("undo()", chain.undo(), 2);
        CHECK.equal("count(1) behind undo()", chain.count(1), 0);
    }

    private static void orders() {
        DeafChain chain = new DeafChain();
        CHECK.equal("obey()", Check.obey(chain, "say3,14,15#9;say4;ear2=7;fee2=0;teach2:14=3"), 5);
        CHECK.equal("waits(0, 0)", chain.waits(0, 0), 3);
        CHECK.equal("waits(0, 1)", chain.waits(0, 1), 9);
        CHECK.equal("waits(1, 1)", chain.waits(1, 1), 1);
        CHECK.equal("link(2, 0)", chain.link(2, 0), 7);
        CHECK.equal("link(2, 1)", chain.link(2, 1), 0);
        CHECK.equal("meaning(2, 14, 0)", chain.meaning(2, 14, 0), 3);
        CHECK.equal("obey()", Check.obey(chain, "teach2:14=?;go"), 2);
        CHECK.equal("meaning(2, 14, 0)", chain.meaning(2, 14, 0), DeafChain.NONE);
        CHECK.equalText("the arrival", Check.told(chain, 0), "3,?,15");
    }

    private static void takenBack() {
        DeafChain chain = new DeafChain();
        chain.keep();
        Check.obey(chain, "say1");
        long said = chain.digest();
        chain.go();
        chain.teach(0, 1, 2);
        chain.ear(0, 1);
        chain.fee(0, 2);
        chain.restore();
        for (int left = 5; left >= 1; left--) {
            CHECK.equal("undo()", chain.undo(), left);
        }
        CHECK.equal("digest() behind them", chain.digest(), said);
        CHECK.equal("undo()", chain.undo(), 0);
        CHECK.equal("count(0) behind all of them", chain.count(0), 0);
    }
}
