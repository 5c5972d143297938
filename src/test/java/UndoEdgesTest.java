import java.util.function.Consumer;

/** The edges that the term "Undo, the snapshot" names, and those of undo, keep and restore, sentence by sentence. */
public final class UndoEdgesTest {
    private static final Check CHECK = new Check();

    public static void main(String[] args) {
        CHECK.holds("Each method that is marked \"undoable\" saves the state from before it", UndoEdgesTest::undoable);
        CHECK.holds("and does not throw an exception", UndoEdgesTest::refusedSaveNothing);
        CHECK.holds("(also if it changes nothing)", UndoEdgesTest::unchanged);
        CHECK.holds("what is not marked saves nothing", UndoEdgesTest::notUndoable);
        CHECK.holds("all, also arrivals, what is counted so far and the latest stop", UndoEdgesTest::allIsSaved);
        CHECK.holds("all: the last word and number of the last link", UndoEdgesTest::lastLinkIsSaved);
        CHECK.holds("all: the eighth sentence that waits, with twelve words", UndoEdgesTest::eighthSentenceIsSaved);
        CHECK.holds("all: the sixth arrival, with twelve words", UndoEdgesTest::sixthArrivalIsSaved);
        CHECK.holds("but the buffer", UndoEdgesTest::notTheBuffer);
        CHECK.holds("but the saved states", UndoEdgesTest::notTheSavedStates);
        CHECK.holds("but the snapshot", UndoEdgesTest::notTheSnapshot);
        CHECK.holds("At most 6 states are saved", UndoEdgesTest::sixAreSaved);
        CHECK.holds("the oldest one is dropped first", UndoEdgesTest::oldestIsDropped);
        CHECK.holds("undo: Restores the latest saved state, and drops it. Returns how many saved states are left.",
            UndoEdgesTest::latestIsDropped);
        CHECK.holds("keep: Takes a snapshot, in place of the one before.", UndoEdgesTest::inPlaceOfTheOneBefore);
        CHECK.holds("keep: Returns how many sentences wait.", UndoEdgesTest::howManyWaitAtKeep);
        CHECK.holds("restore: Restores the state of the snapshot, which stays.", UndoEdgesTest::snapshotStays);
        CHECK.holds("restore: Undoable.", UndoEdgesTest::restoreIsUndone);
        CHECK.holds("restore: Returns how many sentences wait then.", UndoEdgesTest::howManyWaitAtRestore);
        CHECK.end();
    }

    /** One call saves one state, and undo() brings back the digest from before it. */
    private static void isUndone(String what, DeafChain chain, Consumer<DeafChain> call) {
        long before = chain.digest();
        int saved = chain.count(6);
        call.accept(chain);
        CHECK.equal("saved states behind " + what, chain.count(6), saved + 1);
        CHECK.equal("undo() behind " + what, chain.undo(), saved);
        CHECK.equal("digest behind undo() of " + what, chain.digest(), before);
    }

    private static void undoable() {
        DeafChain chain = new DeafChain();
        Check.obey(chain, "say1,2;say3#4");
        chain.keep();
        isUndone("teach", chain, other -> other.teach(0, 1, 2));
        isUndone("ear", chain, other -> other.ear(0, 1));
        isUndone("fee", chain, other -> other.fee(0, 2));
        isUndone("go", chain, DeafChain::go);
        isUndone("restore", chain, DeafChain::restore);
        chain.go();
        isUndone("restore of what was before", chain, DeafChain::restore);
        DeafChain fresh = new DeafChain();
        isUndone("obey", fresh, other -> Check.obey(other, "say1"));
        isUndone("obey of what stops", fresh, other -> Check.obey(other, "say1;go;go"));
        isUndone("obey of none", fresh, other -> Check.obey(other, "go"));
    }

    private static void refusedSaveNothing() {
        DeafChain chain = new DeafChain();
        Check.outcome(() -> chain.teach(0, 30, 0));
        Check.outcome(() -> chain.ear(0, 10));
        Check.outcome(() -> chain.fee(0, 10));
        Check.outcome(chain::go);
        Check.outcome(chain::obey);
        Check.outcome(chain::restore);
        CHECK.equal("saved states", chain.count(6), 0);
        chain.ear(0, 3);
        Check.outcome(() -> chain.ear(0, -1));
        Check.outcome(chain::restore);
        CHECK.equal("saved states", chain.count(6), 1);
        CHECK.equal("undo()", chain.undo(), 0);
        CHECK.equal("ear", chain.link(0, 0), 0);
    }

    private static void unchanged() {
        DeafChain chain = new DeafChain();
        isUndone("teach of the same", chain, other -> other.teach(0, 1, 1));
        isUndone("ear of the same", chain, other -> other.ear(0, 0));
        isUndone("fee of the same", chain, other -> other.fee(0, 1));
        isUndone("obey of the same", chain, other -> Check.obey(other, "fee0=1"));
        chain.keep();
        isUndone("restore of the same", chain, DeafChain::restore);
        chain.teach(0, 1, 1);
        chain.ear(0, 0);
        chain.fee(0, 1);
        CHECK.equal("saved states", chain.count(6), 3);
    }

    private static void notUndoable() {
        DeafChain chain = new DeafChain();
        chain.append('g');
        chain.firstError();
        chain.clearBuffer();
        chain.keep();
        chain.stopped(0);
        chain.told(0, 0);
        chain.meaning(0, 0, 0);
        chain.link(0, 0);
        chain.waits(0, 0);
        chain.arrival(0, 0);
        chain.count(0);
        chain.lost(0, 0);
        chain.ifGone(0, 0);
        chain.lostAt(0);
        chain.worstEar();
        chain.costs();
        chain.throughShare();
        chain.digest();
        CHECK.equal("saved states", chain.count(6), 0);
        CHECK.equalText("undo()", Check.outcome(chain::undo), "throws." + Check.STATE);
        chain.ear(0, 1);
        chain.undo();
        CHECK.equal("undo() saves nothing", chain.count(6), 0);
    }

    private static void allIsSaved() {
        isUndoneWhenFull("go()", DeafChain::go);
        isUndoneWhenFull("nine that go", other -> Check.obey(other, "go;go;go;go;go;go;go;go;go"));
        isUndoneWhenFull("orders of each kind", other -> Check.obey(other, "go;go;say29;go;say1,2,3,9;go;fee0=0;ear1=1;teach2:29=3"));
        isUndoneWhenFull("restore()", DeafChain::restore);
    }

    /** Where six states are saved, the call drops the oldest one: behind undo() there are five, and all else is as before. */
    private static void isUndoneWhenFull(String what, Consumer<DeafChain> call) {
        DeafChain chain = Scenes.full();
        String before = withoutSaved(chain);
        call.accept(chain);
        CHECK.equal("saved states behind " + what, chain.count(6), 6);
        CHECK.equal("undo() of " + what, chain.undo(), 5);
        CHECK.equalText("all but the saved states and the buffer behind undo() of " + what, withoutSaved(chain), before);
    }

    /** All that is told of a chain, one look after the other, but count(6) and the buffer. */
    private static String withoutSaved(DeafChain chain) {
        StringBuilder text = new StringBuilder();
        for (int what = 0; what < 6; what++) {
            text.append(' ').append(chain.count(what));
        }
        for (int link = 0; link < 6; link++) {
            text.append(" link");
            for (int what = 0; what < 7; what++) {
                text.append(' ').append(chain.link(link, what));
            }
        }
        for (int place = 0; place < 8; place++) {
            text.append(" waits ").append(chain.waits(place, 2)).append(' ').append(chain.waits(place, 0));
        }
        for (int back = 0; back < 6; back++) {
            text.append(" told ").append(Check.told(chain, back)).append(' ').append(chain.arrival(back, 3));
        }
        for (int place = 0; place < 3; place++) {
            text.append(" lost ").append(chain.lost(place, 0)).append(' ').append(chain.lost(place, 1));
        }
        return text.append(" stopped ").append(chain.stopped(0)).append(' ').append(chain.stopped(1)).toString();
    }

    private static void lastLinkIsSaved() {
        String orders = "teach5:29=?;teach5:28=27;ear5=1;fee5=9;say29,28;go;go";
        isUndone("all of the last link", new DeafChain(), other -> Check.obey(other, orders));
        DeafChain chain = new DeafChain();
        chain.ear(0, 0);
        String before = withoutSaved(chain) + chain.meaning(5, 29, 0) + chain.meaning(5, 28, 0);
        chain.keep();
        Check.obey(chain, orders);
        String behind = withoutSaved(chain) + chain.meaning(5, 29, 0) + chain.meaning(5, 28, 0);
        chain.restore();
        CHECK.equalText("restore()", withoutSaved(chain) + chain.meaning(5, 29, 0) + chain.meaning(5, 28, 0), before);
        chain.undo();
        CHECK.equalText("undo()", withoutSaved(chain) + chain.meaning(5, 29, 0) + chain.meaning(5, 28, 0), behind);
        int[] due = {1, 9, 1, 1, 1, 9, 1};
        for (int what = 0; what < 7; what++) {
            CHECK.equal("link(5, " + what + ")", chain.link(5, what), due[what]);
        }
        CHECK.equal("lost(0, 0)", chain.lost(0, 0), 28);
        CHECK.equal("lost(1, 0)", chain.lost(1, 0), 29);
        CHECK.equal("lost(1, 1)", chain.lost(1, 1), 1);
    }

    private static DeafChain eightOfTwelveWords() {
        DeafChain chain = new DeafChain();
        for (int pair = 0; pair < 4; pair++) {
            Check.obey(chain, "say0,1,2,3,4,5,6,7,8,9,0,1#2;say3,4,5,6,7,8,9,0,1,2,3," + pair + "#2");
        }
        return chain;
    }

    private static void eighthIsAsBefore(String when, DeafChain chain) {
        int[] due = {12, 2, 3};
        for (int what = 0; what < 3; what++) {
            CHECK.equal("waits(7, " + what + ") behind " + when, chain.waits(7, what), due[what]);
        }
        for (int left = 7; left >= 0; left--) {
            chain.go();
        }
        CHECK.equalText("told of the eighth behind " + when, Check.told(chain, 0), "3,4,5,6,7,8,9,0,1,2,3,3");
        CHECK.equal("the last word of the sixth behind " + when, chain.told(2, 22), '2');
    }

    private static void eighthSentenceIsSaved() {
        String another = "go;say20,19,18,17,16,15,14,13,12,11,10";
        DeafChain undone = eightOfTwelveWords();
        Check.obey(undone, another);
        CHECK.equal("another is the eighth", undone.waits(7, 0), 11);
        undone.undo();
        eighthIsAsBefore("undo()", undone);
        DeafChain restored = eightOfTwelveWords();
        restored.keep();
        Check.obey(restored, another);
        CHECK.equal("another is the eighth", restored.waits(7, 1), 1);
        restored.restore();
        eighthIsAsBefore("restore()", restored);
    }

    private static DeafChain sixOfTwelveWords() {
        DeafChain chain = new DeafChain();
        for (int pair = 0; pair < 3; pair++) {
            Check.obey(chain, "say" + pair + ",1,2,3,4,5,6,7,8,9,0,1;go;say3,4,5,6,7,8,9,0,1,2,3," + pair + ";go");
        }
        return chain;
    }

    private static void sixthArrivalIsSaved() {
        DeafChain undone = sixOfTwelveWords();
        CHECK.equalText("told of the sixth", Check.told(undone, 5), "0,1,2,3,4,5,6,7,8,9,0,1");
        Check.obey(undone, "say7;go");
        CHECK.equalText("told of the sixth then", Check.told(undone, 5), "3,4,5,6,7,8,9,0,1,2,3,0");
        undone.undo();
        CHECK.equalText("told of the sixth behind undo()", Check.told(undone, 5), "0,1,2,3,4,5,6,7,8,9,0,1");
        CHECK.equal("sent of the latest", undone.arrival(0, 5), 12);
        DeafChain restored = sixOfTwelveWords();
        restored.keep();
        Check.obey(restored, "say7;go");
        restored.restore();
        CHECK.equalText("told of the sixth behind restore()", Check.told(restored, 5), "0,1,2,3,4,5,6,7,8,9,0,1");
        CHECK.equal("sent of the latest", restored.arrival(0, 5), 12);
    }

    private static void notTheBuffer() {
        DeafChain chain = new DeafChain();
        Check.type(chain, "go;");
        chain.keep();
        chain.ear(0, 1);
        Check.type(chain, "say1x");
        chain.undo();
        CHECK.equal("firstError() behind undo()", chain.firstError(), 4);
        CHECK.equal("restore()", chain.restore(), 0);
        CHECK.equal("firstError() behind restore()", chain.firstError(), 4);
        CHECK.equal("clearBuffer()", chain.clearBuffer(), 5);
        chain.undo();
        CHECK.equal("undo() brings back no cleared one", chain.clearBuffer(), 0);
    }

    private static void notTheSavedStates() {
        DeafChain chain = new DeafChain();
        chain.ear(0, 1);
        chain.keep();
        chain.ear(0, 2);
        chain.ear(0, 3);
        CHECK.equal("saved states", chain.count(6), 3);
        chain.restore();
        CHECK.equal("saved states behind restore()", chain.count(6), 4);
        int[] ears = {3, 2, 1, 0};
        for (int ear : ears) {
            chain.undo();
            CHECK.equal("ear behind undo()", chain.link(0, 0), ear);
        }
        CHECK.equal("saved states", chain.count(6), 0);
    }

    private static void notTheSnapshot() {
        DeafChain chain = new DeafChain();
        chain.keep();
        chain.ear(0, 5);
        chain.keep();
        chain.undo();
        CHECK.equal("ear behind undo()", chain.link(0, 0), 0);
        chain.restore();
        CHECK.equal("the snapshot is that of later", chain.link(0, 0), 5);
        chain.undo();
        CHECK.equal("ear behind undo() of restore()", chain.link(0, 0), 0);
        DeafChain first = new DeafChain();
        first.ear(0, 5);
        first.keep();
        first.undo();
        CHECK.equal("undo() does not undo keep()", first.restore(), 0);
        CHECK.equal("ear of the snapshot", first.link(0, 0), 5);
    }

    private static void sixAreSaved() {
        DeafChain chain = new DeafChain();
        for (int call = 1; call <= 20; call++) {
            chain.fee(0, call % 10);
            CHECK.equal("saved states behind " + call, chain.count(6), Math.min(call, 6));
        }
        for (int left = 5; left >= 0; left--) {
            CHECK.equal("undo()", chain.undo(), left);
        }
        CHECK.equalText("undo() of a seventh", Check.outcome(chain::undo), "throws." + Check.STATE);
    }

    private static void oldestIsDropped() {
        for (int calls = 5; calls <= 9; calls++) {
            DeafChain chain = new DeafChain();
            for (int ear = 1; ear <= calls; ear++) {
                chain.ear(3, ear);
            }
            int oldest = Math.max(0, calls - 6);
            for (int ear = calls - 1; ear >= oldest; ear--) {
                chain.undo();
                CHECK.equal("ear behind undo() of " + (ear + 1), chain.link(3, 0), ear);
            }
            CHECK.equalText("undo() of what was dropped", Check.outcome(chain::undo), "throws." + Check.STATE);
            CHECK.equal("the oldest that was left", chain.link(3, 0), oldest);
        }
    }

    private static void latestIsDropped() {
        DeafChain chain = new DeafChain();
        chain.ear(0, 1);
        chain.ear(0, 2);
        CHECK.equal("undo()", chain.undo(), 1);
        chain.ear(0, 3);
        CHECK.equal("undo()", chain.undo(), 1);
        CHECK.equal("ear", chain.link(0, 0), 1);
        CHECK.equal("undo()", chain.undo(), 0);
        CHECK.equal("ear", chain.link(0, 0), 0);
        for (int ear = 1; ear <= 8; ear++) {
            chain.ear(0, ear);
        }
        CHECK.equal("undo() of six", chain.undo(), 5);
        CHECK.equal("undo() of five", chain.undo(), 4);
        chain.ear(0, 9);
        chain.fee(0, 9);
        chain.fee(0, 8);
        int[] ears = {9, 9, 6, 5, 4, 3};
        for (int ear : ears) {
            chain.undo();
            CHECK.equal("ear behind undo()", chain.link(0, 0), ear);
        }
    }

    private static void inPlaceOfTheOneBefore() {
        DeafChain chain = new DeafChain();
        Check.obey(chain, "say1;say2;teach0:1=?");
        chain.keep();
        Check.obey(chain, "go;teach0:1=5;ear0=3;say7,8,9#9");
        chain.keep();
        Check.obey(chain, "go;go;go");
        CHECK.equal("restore()", chain.restore(), 2);
        CHECK.equal("meaning", chain.meaning(0, 1, 0), 5);
        CHECK.equal("ear", chain.link(0, 0), 3);
        CHECK.equal("went", chain.count(1), 1);
        CHECK.equal("no stop", chain.stopped(0), -1);
        CHECK.equal("first that waits", chain.waits(0, 2), 7);
    }

    private static void howManyWaitAtKeep() {
        DeafChain chain = new DeafChain();
        for (int waiting = 0; waiting <= 8; waiting++) {
            CHECK.equal("keep()", chain.keep(), waiting);
            CHECK.equal("keep() again", chain.keep(), waiting);
            Check.obey(chain, "say0");
        }
        chain.go();
        CHECK.equal("keep() behind go()", chain.keep(), 7);
    }

    private static void snapshotStays() {
        DeafChain chain = Scenes.full();
        chain.restore();
        chain.clearBuffer();
        long digest = chain.digest();
        CHECK.equal("went at the snapshot", chain.count(1), 4);
        for (int time = 0; time < 3; time++) {
            Check.obey(chain, "say7;say8,9#3;go;fee1=0;teach5:5=?;ear0=1;go;go");
            chain.restore();
            CHECK.equal("digest behind restore()", chain.digest(), digest);
            chain.restore();
            CHECK.equal("digest behind restore() again", chain.digest(), digest);
        }
    }

    private static void restoreIsUndone() {
        DeafChain chain = Scenes.full();
        chain.undo();
        isUndone("restore of a full one", chain, DeafChain::restore);
        CHECK.equal("stopped(0)", chain.stopped(0), 8);
        chain.restore();
        CHECK.equal("stopped(0) of the snapshot", chain.stopped(0), -1);
        CHECK.equal("saved states", chain.count(6), 6);
        chain.restore();
        CHECK.equal("saved states are six at most", chain.count(6), 6);
    }

    private static void howManyWaitAtRestore() {
        DeafChain chain = new DeafChain();
        chain.keep();
        Check.obey(chain, "say0;say1;say2;say3;say4;say5;say6;say7");
        CHECK.equal("restore() of none", chain.restore(), 0);
        CHECK.equal("undo()", chain.undo(), 1);
        CHECK.equal("keep() of eight", chain.keep(), 8);
        Check.obey(chain, "go;go;go;go;go;go;go;go");
        CHECK.equal("restore() of eight", chain.restore(), 8);
        CHECK.equal("how many wait", chain.count(0), 8);
    }
}
