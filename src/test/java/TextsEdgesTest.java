/** The edges that the term "Input text" names, and those of append to stopped, sentence by sentence. */
public final class TextsEdgesTest {
    private static final Check CHECK = new Check();
    private static final String DIGITS = "0123456789";
    private static final String STARTS = "sgeft";

    public static void main(String[] args) {
        CHECK.holds("The buffer has at most 60 characters.", TextsEdgesTest::sixtyCharacters);
        CHECK.holds("append: Returns the new length of the buffer.", TextsEdgesTest::everyCode);
        CHECK.holds("clearBuffer: Returns the length that it had.", TextsEdgesTest::lengthsCleared);
        CHECK.holds("\"say\", and one or more words, 0 to 29, with \",\" between them", TextsEdgesTest::sayWords);
        CHECK.holds("(at most 12)", TextsEdgesTest::atMostTwelve);
        CHECK.holds("and perhaps \"#\" and an urgency, 1 to 9 (1 if it is not told)", TextsEdgesTest::sayUrgency);
        CHECK.holds("\"go\" (the first one goes)", TextsEdgesTest::goes);
        CHECK.holds("\"ear\", a link, 0 to 5, \"=\", and an ear, 0 to 9", () -> settings("ear", 0));
        CHECK.holds("\"fee\", a link, \"=\", and a fee, 0 to 9", () -> settings("fee", 1));
        CHECK.holds("\"teach\", a link, \":\", a word, \"=\", and its meaning, 0 to 29, or \"?\" for none", TextsEdgesTest::lessons);
        CHECK.holds("numbers without a leading zero", TextsEdgesTest::leadingZeros);
        CHECK.holds("one or more parts with \";\" between them", TextsEdgesTest::parts);
        CHECK.holds("a character is a syntax error if no orders as a text begin with the characters before it and this character",
            TextsEdgesTest::everyCharacter);
        CHECK.holds("no orders as a text, of any length", TextsEdgesTest::ofAnyLength);
        CHECK.holds("The buffer is read from left to right", TextsEdgesTest::firstOfSeveralErrors);
        CHECK.holds("firstError: the length of the buffer if there is none", TextsEdgesTest::noError);
        CHECK.holds("obey: up to the first one that cannot be obeyed (a ninth sentence that waits: reason 1)",
            TextsEdgesTest::ninthSentence);
        CHECK.holds("obey: none that waits: reason 2", TextsEdgesTest::noneWaits);
        CHECK.holds("obey: and clears the buffer", TextsEdgesTest::clearedByObey);
        CHECK.holds("obey: Undoable, as one call, also if none is obeyed.", TextsEdgesTest::undoneAsOne);
        CHECK.holds("obey: The latest stop is that of this call then, or none, if all are obeyed.", TextsEdgesTest::latestStop);
        CHECK.holds("obey: Returns how many orders are obeyed.", TextsEdgesTest::howMany);
        CHECK.holds("stopped: the number of the part that stopped it, from 0", TextsEdgesTest::stoppingPart);
        CHECK.holds("stopped: NONE if there is no stop.", TextsEdgesTest::noStop);
        CHECK.end();
    }

    private static DeafChain typed(String text) {
        DeafChain chain = new DeafChain();
        Check.type(chain, text);
        return chain;
    }

    private static DeafChain obeyed(String text) {
        DeafChain chain = typed(text);
        chain.obey();
        return chain;
    }

    private static void errorAt(String text, int due) {
        CHECK.equal("firstError() of " + text, typed(text).firstError(), due);
    }

    /** Complete orders have no error and are obeyed, whether or not they stop. */
    private static void complete(String text) {
        errorAt(text, text.length());
        DeafChain chain = typed(text);
        CHECK.equal("is " + text + " obeyed?", Check.outcome(chain::obey).startsWith("throws.") ? 0 : 1, 1);
    }

    /** What is not complete has no error as far as it goes, but is not obeyed. */
    private static void incomplete(String text) {
        errorAt(text, text.length());
        CHECK.refused(() -> typed(text), "obey() of " + text, DeafChain::obey, Check.ARGUMENT);
    }

    private static void wrongAt(String text, int due) {
        errorAt(text, due);
        CHECK.refused(() -> typed(text), "obey() of " + text, DeafChain::obey, Check.ARGUMENT);
    }

    private static void sixtyCharacters() {
        DeafChain chain = new DeafChain();
        String text = "say1,2,3,4,5,6,7,8,9,0,1,2#3;go;say29,28,27#9;go;ear0=1;fee5=";
        CHECK.equal("length of the text", text.length(), 61);
        for (int length = 1; length <= 60; length++) {
            CHECK.equal("append", chain.append(text.charAt(length - 1)), length);
        }
        CHECK.equal("firstError()", chain.firstError(), 60);
        CHECK.equalText("the character 61", Check.outcome(() -> chain.append('=')), "throws." + Check.STATE);
        CHECK.equal("firstError() then", chain.firstError(), 60);
        CHECK.equal("clearBuffer()", chain.clearBuffer(), 60);
        String orders = "say1,2,3,4,5,6,7,8,9,0,1,2#3;go;say29,28,27,1#9;ear0=1;go;go";
        CHECK.equal("length of the orders", orders.length(), 60);
        CHECK.equal("obey() of 60 characters", Check.obey(chain, orders), 5);
        CHECK.equal("clearBuffer() behind obey()", chain.clearBuffer(), 0);
    }

    private static void everyCode() {
        for (int code = 33; code <= 126; code++) {
            DeafChain chain = new DeafChain();
            CHECK.equal("append(" + code + ")", chain.append(code), 1);
            CHECK.equal("append(" + code + ") again", chain.append(code), 2);
            CHECK.equal("states saved by append", chain.count(6), 0);
        }
    }

    private static void lengthsCleared() {
        DeafChain chain = new DeafChain();
        CHECK.equal("clearBuffer() of an empty one", chain.clearBuffer(), 0);
        chain.append('x');
        CHECK.equal("clearBuffer() of one character", chain.clearBuffer(), 1);
        CHECK.equal("clearBuffer() of a cleared one", chain.clearBuffer(), 0);
        CHECK.equal("firstError() of a cleared one", chain.firstError(), 0);
        DeafChain full = Scenes.sixtyCharacters();
        CHECK.equal("clearBuffer() of a full one", full.clearBuffer(), 60);
        CHECK.equal("states saved by clearBuffer()", full.count(6), 1);
        CHECK.equal("orders behind it", Check.obey(full, "ear0=0"), 1);
    }

    private static void sayWords() {
        complete("say0");
        complete("say29");
        complete("say9,10");
        complete("say10,9");
        complete("say0,29,0");
        wrongAt("say30", 4);
        wrongAt("say31", 4);
        wrongAt("say99", 4);
        wrongAt("say100", 5);
        wrongAt("say290", 5);
        wrongAt("say1,30", 6);
        incomplete("say");
        incomplete("say1,");
        wrongAt("say,1", 3);
        wrongAt("say;", 3);
        wrongAt("say1,;", 5);
        wrongAt("say1,,1", 5);
        wrongAt("say1.1", 4);
        wrongAt("say?", 3);
        wrongAt("say1,?", 5);
        wrongAt("say-1", 3);
        CHECK.equal("the word of say0", obeyed("say0").waits(0, 2), 0);
        CHECK.equal("the word of say29", obeyed("say29").waits(0, 2), 29);
    }

    private static void atMostTwelve() {
        String twelve = "say1,2,3,4,5,6,7,8,9,0,1,2";
        String twelveLong = "say10,11,12,13,14,15,16,17,18,19,20,29";
        complete(twelve);
        complete(twelveLong);
        complete(twelve + "#9");
        complete(twelve + ";go");
        wrongAt(twelve + ",", 26);
        wrongAt(twelve + ",3", 26);
        wrongAt(twelveLong + ",", 38);
        wrongAt(twelveLong + ",3", 38);
        wrongAt("go;" + twelve + ",3", 29);
        complete(twelve + ";" + twelve);
        wrongAt(twelve + ";" + twelve + ",", 53);
        CHECK.equal("words of the longest", obeyed(twelveLong).waits(0, 0), 12);
    }

    private static void sayUrgency() {
        for (int urgency = 1; urgency <= 9; urgency++) {
            complete("say0#" + urgency);
            CHECK.equal("urgency", obeyed("say3,4#" + urgency).waits(0, 1), urgency);
        }
        CHECK.equal("urgency that is not told", obeyed("say3,4").waits(0, 1), 1);
        CHECK.equal("urgency that is not told behind one that is", obeyed("say3#9;go;say4").waits(0, 1), 1);
        wrongAt("say0#0", 5);
        wrongAt("say0#01", 5);
        wrongAt("say0#10", 6);
        wrongAt("say0#99", 6);
        wrongAt("say0##", 5);
        wrongAt("say0#;", 5);
        wrongAt("say0#1,1", 6);
        wrongAt("say0#1#1", 6);
        wrongAt("say#1", 3);
        incomplete("say0#");
    }

    private static void goes() {
        complete("go");
        incomplete("g");
        wrongAt("go1", 2);
        wrongAt("goo", 2);
        wrongAt("gO", 1);
        DeafChain chain = obeyed("say5;say6#2;go");
        CHECK.equalText("the first one went", Check.told(chain, 0), "6");
        CHECK.equal("the other one waits", chain.waits(0, 2), 5);
    }

    private static void settings(String name, int what) {
        for (int link = 0; link <= 5; link++) {
            for (int value = 0; value <= 9; value++) {
                DeafChain chain = obeyed(name + link + "=" + value);
                for (int other = 0; other <= 5; other++) {
                    int due = other == link ? value : what;
                    CHECK.equal("link(" + other + ", " + what + ")", chain.link(other, what), due);
                    CHECK.equal("link(" + other + ", " + (1 - what) + ")", chain.link(other, 1 - what), 1 - what);
                }
            }
        }
        wrongAt(name + "6=0", 3);
        wrongAt(name + "9=0", 3);
        wrongAt(name + "-1=0", 3);
        wrongAt(name + "00=0", 4);
        wrongAt(name + "50=0", 4);
        wrongAt(name + "0:0", 4);
        wrongAt(name + "0=10", 6);
        wrongAt(name + "0=00", 6);
        wrongAt(name + "0=99", 6);
        wrongAt(name + "0=?", 5);
        wrongAt(name + "0=-1", 5);
        wrongAt(name + "=0", 3);
        wrongAt(name + "0=;", 5);
        incomplete(name);
        incomplete(name + "5");
        incomplete(name + "5=");
    }

    private static void lesson(String text, int link, int word, int due) {
        complete(text);
        DeafChain chain = obeyed(text);
        for (int other = 0; other < 6; other++) {
            for (int each = 0; each < 30; each++) {
                int meant = other == link && each == word ? due : each;
                CHECK.equal("meaning(" + other + ", " + each + ", 0) behind " + text, chain.meaning(other, each, 0), meant);
            }
        }
    }

    private static void lessons() {
        lesson("teach0:0=29", 0, 0, 29);
        lesson("teach5:29=0", 5, 29, 0);
        lesson("teach0:29=?", 0, 29, -1);
        lesson("teach5:0=?", 5, 0, -1);
        lesson("teach3:10=19", 3, 10, 19);
        lesson("teach2:9=20", 2, 9, 20);
        wrongAt("teach6:0=0", 5);
        wrongAt("teach00:0=0", 6);
        wrongAt("teach0=0", 6);
        wrongAt("teach0:30=0", 8);
        wrongAt("teach0:290=0", 9);
        wrongAt("teach0:?=0", 7);
        wrongAt("teach0:0:0", 8);
        wrongAt("teach0:0=30", 10);
        wrongAt("teach0:0=290", 11);
        wrongAt("teach0:0=??", 10);
        wrongAt("teach0:0=?0", 10);
        wrongAt("teach0:0=1?", 10);
        wrongAt("teach0:0=-1", 9);
        wrongAt("teach0:0=;", 9);
        for (String text : new String[] {"t", "te", "tea", "teac", "teach", "teach0", "teach0:", "teach0:2", "teach0:29", "teach0:29="}) {
            incomplete(text);
        }
    }

    private static void leadingZeros() {
        wrongAt("say00", 4);
        wrongAt("say01", 4);
        wrongAt("say09", 4);
        wrongAt("say1,00", 6);
        wrongAt("say1#01", 5);
        wrongAt("ear01=1", 4);
        wrongAt("ear1=01", 6);
        wrongAt("fee01=1", 4);
        wrongAt("fee1=01", 6);
        wrongAt("teach01:1=1", 6);
        wrongAt("teach1:01=1", 8);
        wrongAt("teach1:00=1", 8);
        wrongAt("teach1:1=01", 10);
        wrongAt("teach1:1=00", 10);
        complete("say0,10,20#1;ear0=0;fee0=0;teach0:0=0;teach0:20=10");
    }

    private static void parts() {
        errorAt("", 0);
        CHECK.refused(DeafChain::new, "obey() of no part", DeafChain::obey, Check.ARGUMENT);
        complete("go;go");
        complete("say1;go;ear1=1;fee1=1;teach1:1=?;teach1:1=1;go");
        wrongAt(";", 0);
        wrongAt(";go", 0);
        wrongAt("go;;go", 3);
        wrongAt("gogo", 2);
        wrongAt("go,go", 2);
        wrongAt("say1go", 4);
        wrongAt("ear1=1say1", 6);
        wrongAt("teach1:1=?go", 10);
        incomplete("go;");
        incomplete("say1;");
        incomplete("say1#2;");
        incomplete("fee0=0;");
        complete("go;go;go;go;go;go;go;go;go;go;go;go;go;go;go;go;go;go;go;go");
        incomplete("go;go;go;go;go;go;go;go;go;go;go;go;go;go;go;go;go;go;go;go;");
    }

    /** What may stand behind each beginning, written down by hand: beginning, characters, beginning, characters, ... */
    private static final String[] NEXT = {
        "", STARTS, "s", "a", "sa", "y", "say", DIGITS, "say0", ",#;", "say1", DIGITS + ",#;", "say2", DIGITS + ",#;",
        "say3", ",#;", "say9", ",#;", "say10", ",#;", "say19", ",#;", "say20", ",#;", "say29", ",#;", "say4,", DIGITS,
        "say4,0", ",#;", "say4,2", DIGITS + ",#;", "say4#", "123456789", "say4#1", ";", "say4#9", ";", "say4#9;", STARTS,
        "say0,1,2,3,4,5,6,7,8,9,0", ",#;", "say0,1,2,3,4,5,6,7,8,9,0,", DIGITS, "say0,1,2,3,4,5,6,7,8,9,0,0", "#;",
        "say0,1,2,3,4,5,6,7,8,9,0,1", DIGITS + "#;", "say0,1,2,3,4,5,6,7,8,9,0,12", "#;",
        "say0,1,2,3,4,5,6,7,8,9,0,1#", "123456789", "g", "o", "go", ";", "go;", STARTS,
        "e", "a", "ea", "r", "ear", "012345", "ear0", "=", "ear5", "=", "ear5=", DIGITS, "ear5=0", ";", "ear5=1", ";",
        "f", "e", "fe", "e", "fee", "012345", "fee0", "=", "fee5", "=", "fee5=", DIGITS, "fee5=9", ";", "fee5=1", ";",
        "t", "e", "te", "a", "tea", "c", "teac", "h", "teach", "012345", "teach0", ":", "teach5", ":", "teach5:", DIGITS,
        "teach5:0", "=", "teach5:1", DIGITS + "=", "teach5:2", DIGITS + "=", "teach5:3", "=", "teach5:9", "=",
        "teach5:29", "=", "teach5:10=", DIGITS + "?", "teach5:1=0", ";", "teach5:1=1", DIGITS + ";",
        "teach5:1=2", DIGITS + ";", "teach5:1=3", ";", "teach5:1=29", ";", "teach5:1=?", ";", "teach5:1=?;", STARTS
    };

    private static void everyCharacter() {
        for (int row = 0; row < NEXT.length; row += 2) {
            for (String before : new String[] {"", "go;", "say4,29#7;teach0:20=?;"}) {
                String beginning = before + NEXT[row];
                for (int code = 33; code <= 126; code++) {
                    boolean fits = NEXT[row + 1].indexOf(code) >= 0;
                    errorAt(beginning + (char) code, beginning.length() + (fits ? 1 : 0));
                }
            }
        }
    }

    private static final String EIGHTEEN_GOES = "go;go;go;go;go;go;go;go;go;go;go;go;go;go;go;go;go;go;";

    /** Sixty characters that only a longer text could complete. */
    private static void ofAnyLength() {
        for (String end : new String[] {"teach0", "teach5", "fee0=1", "say10,", "say1#1", "say29,", "go;tea", "go;say", "go;go;"}) {
            CHECK.equal("length", (EIGHTEEN_GOES + end).length(), 60);
            errorAt(EIGHTEEN_GOES + end, 60);
        }
        for (String end : new String[] {"teach6", "fee0==", "say10;", "say29.", "go;go,", "go;go3"}) {
            errorAt(EIGHTEEN_GOES + end, end.equals("say10;") ? 60 : 59);
        }
    }

    private static void firstOfSeveralErrors() {
        errorAt("xgo", 0);
        errorAt("gx;x", 1);
        errorAt("say1x,x", 4);
        errorAt("go;say30;say30", 7);
        errorAt("go;;;", 3);
        errorAt("sya1", 1);
        errorAt("~", 0);
        errorAt("go~~~~~~~~~~~~~~~~~~~~~~~~~~~~~~~~~~~~~~~~~~~~~~~~~~~~~~~~~~", 2);
    }

    private static void noError() {
        errorAt("", 0);
        String text = "say1,29#9;go;ear5=9;fee0=0;teach0:29=?;teach5:1=10";
        for (int length = 0; length <= text.length(); length++) {
            errorAt(text.substring(0, length), length);
        }
        DeafChain chain = typed(text);
        CHECK.equal("firstError()", chain.firstError(), text.length());
        CHECK.equal("firstError() again", chain.firstError(), text.length());
        CHECK.equal("states saved by firstError()", chain.count(6), 0);
        CHECK.equal("the buffer behind firstError()", chain.clearBuffer(), text.length());
    }

    private static void stopIs(DeafChain chain, int part, int reason) {
        CHECK.equal("stopped(0)", chain.stopped(0), part);
        CHECK.equal("stopped(1)", chain.stopped(1), reason);
    }

    private static void ninthSentence() {
        DeafChain chain = new DeafChain();
        CHECK.equal("obey() of eight", Check.obey(chain, "say1;say2;say3;say4;say5;say6;say7;say8"), 8);
        stopIs(chain, -1, -1);
        CHECK.equal("obey() of a ninth", Check.obey(chain, "ear0=1;say9#9;ear0=2;go"), 1);
        stopIs(chain, 1, 1);
        CHECK.equal("the part before is obeyed, none behind", chain.link(0, 0), 1);
        CHECK.equal("none went", chain.count(1), 0);
        CHECK.equal("eight wait", chain.count(0), 8);
        CHECK.equal("obey() of nine at once", Check.obey(new DeafChain(), "say1;say2;say3;say4;say5;say6;say7;say8;say9"), 8);
        CHECK.equal("obey() with one that goes between", Check.obey(chain, "go;say9"), 2);
        stopIs(chain, -1, -1);
    }

    private static void noneWaits() {
        DeafChain chain = new DeafChain();
        CHECK.equal("obey() of go", Check.obey(chain, "go;ear0=5"), 0);
        stopIs(chain, 0, 2);
        CHECK.equal("none behind the stop", chain.link(0, 0), 0);
        CHECK.equal("obey() of one too many", Check.obey(chain, "say1;go;go;fee0=5"), 2);
        stopIs(chain, 2, 2);
        CHECK.equal("none behind the stop", chain.link(0, 1), 1);
        CHECK.equal("one went", chain.count(1), 1);
        CHECK.equal("obey() of as many", Check.obey(chain, "say1;say2;go;go"), 4);
        stopIs(chain, -1, -1);
    }

    private static void clearedByObey() {
        CHECK.equal("behind all", obeyed("say1;go").clearBuffer(), 0);
        CHECK.equal("behind a stop", obeyed("say1;go;go;say2").clearBuffer(), 0);
        CHECK.equal("behind none", obeyed("go").clearBuffer(), 0);
        DeafChain chain = obeyed("go");
        CHECK.equal("append() behind obey()", chain.append('g'), 1);
        chain.undo();
        CHECK.equal("undo() does not bring it back", chain.clearBuffer(), 1);
    }

    private static void undoneAsOne() {
        DeafChain chain = new DeafChain();
        long before = chain.digest();
        Check.obey(chain, "ear1=2;fee3=4;teach0:1=?;say1,2;go;say2,3;say3");
        CHECK.equal("states saved by seven orders", chain.count(6), 1);
        CHECK.equal("undo()", chain.undo(), 0);
        CHECK.equal("the digest", chain.digest(), before);
        Check.obey(chain, "go");
        CHECK.equal("states saved by none", chain.count(6), 1);
        stopIs(chain, 0, 2);
        CHECK.equal("undo()", chain.undo(), 0);
        CHECK.equal("the digest", chain.digest(), before);
        Check.obey(chain, "say1;go;go");
        CHECK.equal("states saved by a stop in between", chain.count(6), 1);
        CHECK.equal("undo()", chain.undo(), 0);
        CHECK.equal("the digest", chain.digest(), before);
        Check.obey(chain, "ear0=0");
        CHECK.equal("states saved by what changes nothing", chain.count(6), 1);
    }

    private static void latestStop() {
        DeafChain chain = obeyed("go");
        stopIs(chain, 0, 2);
        Check.obey(chain, "say1;say2;say3;say4;say5;say6;say7;say8;say9");
        stopIs(chain, 8, 1);
        Check.obey(chain, "ear0=0;say0");
        stopIs(chain, 1, 1);
        chain.go();
        chain.ear(1, 1);
        chain.firstError();
        stopIs(chain, 1, 1);
        Check.type(chain, "go;");
        Check.outcome(chain::obey);
        stopIs(chain, 1, 1);
        Check.obey(chain, "go");
        stopIs(chain, -1, -1);
    }

    private static void howMany() {
        CHECK.equal("obey() of one", Check.obey(new DeafChain(), "ear0=1"), 1);
        CHECK.equal("obey() of none", Check.obey(new DeafChain(), "go"), 0);
        CHECK.equal("obey() of two, then a stop", Check.obey(new DeafChain(), "say1;go;go;say1;go"), 2);
        CHECK.equal("obey() of twelve", Check.obey(new DeafChain(), "say1;go;say1;go;say1;go;say1;go;say1;go;say1;go"), 12);
        CHECK.equal("obey() of sixteen", Check.obey(goers(), "go;go;go;go;go;go;go;go;say0;go;say0;go;say0;go;say0;go"), 16);
    }

    /** Eight sentences wait. */
    private static DeafChain goers() {
        return obeyed("say1;say2;say3;say4;say5;say6;say7;go;say8;say9");
    }

    private static void stoppingPart() {
        stopIs(obeyed("go;say1;go"), 0, 2);
        stopIs(obeyed("say1;go;go"), 2, 2);
        stopIs(obeyed("say1;say1;say1;say1;say1;say1;say1;say1;say1"), 8, 1);
        DeafChain chain = goers();
        CHECK.equal("obey() up to the part 16", Check.obey(chain, "go;go;go;go;go;go;go;go;say0;go;say0;go;say0;go;say0;go;go"), 16);
        stopIs(chain, 16, 2);
    }

    private static void noStop() {
        stopIs(new DeafChain(), -1, -1);
        stopIs(obeyed("say1"), -1, -1);
        DeafChain chain = obeyed("go");
        chain.undo();
        stopIs(chain, -1, -1);
        Check.obey(chain, "go");
        Check.obey(chain, "fee0=1");
        stopIs(chain, -1, -1);
    }
}
