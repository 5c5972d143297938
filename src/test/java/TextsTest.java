/** Promises 6 to 10: append, clearBuffer, firstError, obey, stopped. */
public final class TextsTest {
    private static final Check CHECK = new Check();

    public static void main(String[] args) {
        appending();
        errors();
        completeTexts();
        obeying();
        stops();
        CHECK.end();
    }

    private static void appending() {
        DeafChain chain = new DeafChain();
        CHECK.equal("append(33)", chain.append(33), 1);
        CHECK.equal("append(126)", chain.append(126), 2);
        CHECK.refused(chain, "append(32)", () -> chain.append(32), Check.ARGUMENT);
        CHECK.refused(chain, "append(127)", () -> chain.append(127), Check.ARGUMENT);
        CHECK.refused(chain, "append(-1)", () -> chain.append(-1), Check.ARGUMENT);
        for (int length = 3; length <= 60; length++) {
            CHECK.equal("append('0')", chain.append('0'), length);
        }
        CHECK.refused(chain, "append('0') to a full buffer", () -> chain.append('0'), Check.STATE);
        CHECK.refused(chain, "append(32) to a full buffer", () -> chain.append(32), Check.ARGUMENT);
        CHECK.equal("nothing of this is undoable: count(6)", chain.count(6), 0);
        CHECK.equal("clearBuffer()", chain.clearBuffer(), 60);
        CHECK.equal("clearBuffer() again", chain.clearBuffer(), 0);
    }

    private static void errorAt(int due, String text) {
        DeafChain chain = new DeafChain();
        Check.type(chain, text);
        CHECK.equal("firstError() of " + text, chain.firstError(), due);
        if (due < text.length()) {
            CHECK.refused(chain, "obey() of " + text, chain::obey, Check.ARGUMENT);
        }
    }

    private static void errors() {
        errorAt(0, "");
        errorAt(0, ";go");
        errorAt(0, "Say1");
        errorAt(1, "so");
        errorAt(2, "sag");
        errorAt(1, "ge");
        errorAt(2, "got");
        errorAt(1, "era");
        errorAt(1, "fa");
        errorAt(4, "teaci");
        errorAt(3, "say,");
        errorAt(3, "say#1");
        errorAt(3, "say?");
        errorAt(4, "say00");
        errorAt(4, "say35");
        errorAt(5, "say299");
        errorAt(5, "say1,,2");
        errorAt(5, "say1#0");
        errorAt(6, "say1#1,2");
        errorAt(6, "say1#99");
        errorAt(26, "say1,2,3,4,5,6,7,8,9,0,1,2,");
        errorAt(29, "say1,2,3,4,5,6,7,8,9,0,1,2#4;");
        errorAt(38, "say10,11,12,13,14,15,16,17,18,19,20,21,");
        errorAt(2, "go,go");
        errorAt(3, "go;;");
        errorAt(6, "go;go;x");
        errorAt(3, "ear6=1");
        errorAt(3, "ear=1");
        errorAt(4, "ear0:1");
        errorAt(6, "ear0=10");
        errorAt(5, "ear5=?");
        errorAt(3, "fee6=1");
        errorAt(6, "fee5=9,");
        errorAt(5, "teach6:1=1");
        errorAt(6, "teach0=1");
        errorAt(7, "teach0:?=1");
        errorAt(8, "teach0:01=1");
        errorAt(8, "teach0:30=1");
        errorAt(9, "teach0:29:1");
        errorAt(10, "teach0:1=01");
        errorAt(10, "teach0:1=30");
        errorAt(10, "teach0:1=?1");
        errorAt(11, "teach0:1=299");
        String longest = "say10,11,12,13,14,15,16,17,18,19,20,21#9;say10,11,12,13,14,1";
        errorAt(longest.length(), longest);
        errorAt(60, "go;go;go;go;go;go;go;go;go;go;go;go;go;go;go;go;go;go;go;go;");
    }

    private static void isComplete(boolean due, String text) {
        DeafChain chain = new DeafChain();
        Check.type(chain, text);
        CHECK.equal("firstError() of " + text, chain.firstError(), text.length());
        boolean got = !Check.outcome(chain::obey).equals("throws." + Check.ARGUMENT);
        CHECK.equalText("obey() of " + text + " obeys", Boolean.toString(got), Boolean.toString(due));
        CHECK.equal("buffer behind obey() of " + text, chain.clearBuffer(), due ? 0 : text.length());
        CHECK.equal("count(6) behind obey() of " + text, chain.count(6), due ? 1 : 0);
    }

    private static void completeTexts() {
        String[] incomplete = {"", "s", "sa", "say", "say1,", "say1#", "g", "go;", "say1;", "ear", "ear1", "ear1=",
            "fee0", "fee0=", "t", "teach", "teach0", "teach0:", "teach0:1", "teach0:12", "teach0:1=", "go;t"};
        for (String text : incomplete) {
            isComplete(false, text);
        }
        String[] complete = {"say0", "say29", "say1,2", "say1#1", "say10,29#9", "say1,2,3,4,5,6,7,8,9,0,1,2", "go", "ear0=0", "ear5=9", "fee0=0",
            "fee5=9", "teach0:0=0", "teach5:29=29", "teach5:29=?", "teach1:10=2", "go;go", "say1;go;ear1=2;fee1=2",
            "go;go;go;go;go;go;go;go;go;go;go;go;go;go;go;go;go;go;go;go"};
        for (String text : complete) {
            isComplete(true, text);
        }
    }

    private static void obeying() {
        DeafChain chain = new DeafChain();
        CHECK.equal("obey()", Check.obey(chain, "ear1=3;fee2=4;teach3:10=20;teach4:5=?;say1,29#4;say2,3,4"), 6);
        CHECK.equal("ear", chain.link(1, 0), 3);
        CHECK.equal("fee", chain.link(2, 1), 4);
        CHECK.equal("meaning", chain.meaning(3, 10, 0), 20);
        CHECK.equal("no meaning", chain.meaning(4, 5, 0), -1);
        CHECK.equal("first that waits", chain.waits(0, 1), 4);
        CHECK.equal("urgency that is not told", chain.waits(1, 1), 1);
        CHECK.equal("one call is saved", chain.count(6), 1);
        CHECK.equal("the buffer is cleared", chain.clearBuffer(), 0);
        CHECK.equal("obey() of two", Check.obey(chain, "go;go"), 2);
        CHECK.equalText("told", Check.told(chain, 1), "1,29");
        CHECK.equal("no stop", chain.stopped(0), -1);
        CHECK.equal("undo()", chain.undo(), 1);
        CHECK.equal("both wait again", chain.count(0), 2);
        CHECK.equal("undo()", chain.undo(), 0);
        CHECK.equal("none waits again", chain.count(0), 0);
        CHECK.equal("the ear is 0 again", chain.link(1, 0), 0);
        CHECK.refused(chain, "obey() of an empty buffer", chain::obey, Check.ARGUMENT);
    }

    private static void stops() {
        DeafChain chain = new DeafChain();
        CHECK.equal("eight wait", Check.obey(chain, "say1;say2;say3;say4;say5;say6;say7;say8"), 8);
        CHECK.equal("stopped(0)", chain.stopped(0), -1);
        CHECK.equal("a ninth", Check.obey(chain, "ear0=9;say9#9;fee0=9"), 1);
        CHECK.equal("stopped(0)", chain.stopped(0), 1);
        CHECK.equal("stopped(1)", chain.stopped(1), 1);
        CHECK.equal("the first part stands", chain.link(0, 0), 9);
        CHECK.equal("what is behind the stop is not obeyed", chain.link(0, 1), 1);
        CHECK.equal("eight wait still", chain.count(0), 8);
        CHECK.equal("the first one is the same", chain.waits(0, 2), 1);
        CHECK.equal("the buffer is cleared", chain.clearBuffer(), 0);
        CHECK.equal("none is obeyed", Check.obey(chain, "say9"), 0);
        CHECK.equal("stopped(0)", chain.stopped(0), 0);
        CHECK.equal("it is undoable", chain.count(6), 3);
        Check.type(chain, "say9,");
        CHECK.refused(chain, "obey()", chain::obey, Check.ARGUMENT);
        CHECK.equal("obey() of no orders leaves the stop", chain.stopped(1), 1);
        CHECK.equal("undo()", chain.undo(), 2);
        CHECK.equal("the stop before is restored", chain.stopped(0), 1);
        CHECK.equal("all go", Check.obey(chain, "go;go;go;go;go;go;go;go;go;say1"), 8);
        CHECK.equal("stopped(0)", chain.stopped(0), 8);
        CHECK.equal("stopped(1)", chain.stopped(1), 2);
        chain.ear(0, 0);
        CHECK.equal("another call leaves the stop", chain.stopped(1), 2);
        CHECK.equal("obey()", Check.obey(chain, "fee0=0"), 1);
        CHECK.equal("the stop is gone", chain.stopped(1), -1);
        CHECK.equal("the stop is gone", chain.stopped(0), -1);
        CHECK.refused(chain, "stopped(-1)", () -> chain.stopped(-1), Check.ARGUMENT);
        CHECK.refused(chain, "stopped(2)", () -> chain.stopped(2), Check.ARGUMENT);
    }
}
