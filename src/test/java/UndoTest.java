/** Promises 12 to 14: undo, keep, restore. */
public final class UndoTest {
    private static final Check CHECK = new Check();

    public static void main(String[] args) {
        allIsUndone();
        sixAreSaved();
        snapshots();
        CHECK.end();
    }

    private static void allIsUndone() {
        DeafChain chain = new DeafChain();
        Check.obey(chain, "teach1:2=?;ear4=2;say1,2;say3;go;go;go");
        Check.obey(chain, "say11,12,13,14,15,16,17,18,19,20,21,22;go;say9,8,7,6,5,4;go");
        Check.obey(chain, "say3,4,5,6;say1,2;say7#8;say9,8,7;say6#2;say5#3");
        long before = chain.digest();
        chain.ear(0, 1);
        CHECK.equal("undo()", chain.undo(), 3);
        CHECK.equal("digest without ear()", chain.digest(), before);
        chain.fee(5, 9);
        chain.undo();
        CHECK.equal("digest without fee()", chain.digest(), before);
        chain.teach(0, 1, 2);
        chain.undo();
        CHECK.equal("digest without teach()", chain.digest(), before);
        chain.go();
        chain.go();
        chain.undo();
        chain.undo();
        CHECK.equal("digest without go()", chain.digest(), before);
        Check.obey(chain, "say1,2;go;go;ear3=3;fee2=9;teach4:4=3;go;go");
        chain.undo();
        CHECK.equal("digest without obey()", chain.digest(), before);
        Check.obey(chain, "go;go;go;go;go;go");
        chain.undo();
        long waiting = 0;
        for (long word : new long[] {7, 5, 6, 3, 1, 9}) {
            CHECK.equal("first word that waits again", chain.waits((int) waiting, 2), word);
            waiting++;
        }
        CHECK.equalText("told again, latest", Check.told(chain, 0), "9,8,6,5");
        CHECK.equalText("told again, second", Check.told(chain, 1), "11,12,14,15,17,18,20,21");
        CHECK.equalText("told again, third", Check.told(chain, 2), "3");
        CHECK.equalText("told again, fourth", Check.told(chain, 3), "1,?");
        CHECK.equal("missed again", chain.link(4, 4), 6);
        Check.type(chain, "xyz");
        chain.ear(0, 0);
        chain.undo();
        CHECK.equal("the buffer is not undone", chain.clearBuffer(), 3);
    }

    private static void sixAreSaved() {
        DeafChain chain = new DeafChain();
        for (int ear = 1; ear <= 9; ear++) {
            chain.ear(2, ear);
            CHECK.equal("count(6)", chain.count(6), Math.min(ear, 6));
        }
        for (int left = 5; left >= 0; left--) {
            CHECK.equal("undo()", chain.undo(), left);
            CHECK.equal("ear behind undo()", chain.link(2, 0), left + 3);
        }
        CHECK.refused(chain, "undo() of a seventh", chain::undo, Check.STATE);
        chain.ear(2, 8);
        CHECK.equal("undo()", chain.undo(), 0);
        CHECK.equal("ear behind undo()", chain.link(2, 0), 3);
    }

    private static void snapshots() {
        DeafChain chain = new DeafChain();
        CHECK.refused(chain, "restore() without a snapshot", chain::restore, Check.STATE);
        CHECK.equal("keep() of a new object", chain.keep(), 0);
        Check.obey(chain, "say1;say2;say3;go;say2#9;go;ear2=3;teach1:1=?");
        CHECK.equal("keep() is not undoable", chain.count(6), 1);
        CHECK.equal("keep() again", chain.keep(), 2);
        long kept = chain.digest();
        Check.type(chain, "go;go;go");
        chain.obey();
        CHECK.equal("a stop", chain.stopped(0), 2);
        long behind = chain.digest();
        CHECK.equal("restore()", chain.restore(), 2);
        CHECK.equal("restore() is undoable", chain.count(6), 3);
        CHECK.equal("the stop is that of the snapshot", chain.stopped(0), -1);
        chain.undo();
        CHECK.equal("digest behind undo() of restore()", chain.digest(), behind);
        chain.undo();
        CHECK.equal("digest of the kept state", chain.digest(), kept);
        chain.ear(0, 5);
        CHECK.equal("restore() again, as the snapshot stays", chain.restore(), 2);
        CHECK.equal("the ear of the snapshot", chain.link(0, 0), 0);
        chain.undo();
        chain.undo();
        chain.undo();
        CHECK.equal("undo() leaves the snapshot", chain.restore(), 2);
        CHECK.equal("went", chain.count(1), 2);
        CHECK.equal("arrivals", chain.count(2), 2);
        Check.type(chain, "go");
        CHECK.equal("restore()", chain.restore(), 2);
        CHECK.equal("restore() leaves the buffer", chain.clearBuffer(), 2);
        for (int time = 0; time < 8; time++) {
            chain.restore();
        }
        CHECK.equal("count(6)", chain.count(6), 6);
    }
}
