import java.util.ArrayList;
import java.util.List;
import java.util.Random;

/** Random runs of calls, each answer compared with that of PlainModel, which is written another way. */
public final class ModelTest {
    private static final Check CHECK = new Check();
    private static final int RUNS = 400;
    // A run ends before 512 calls, also if the last text is the longest one.
    private static final int CALLS = 440;
    private static final int LONGEST_TEXT = 64;

    public static void main(String[] args) {
        for (int run = 0; run < RUNS; run++) {
            play(run, new Random(run));
        }
        CHECK.end();
    }

    private static void play(int run, Random random) {
        DeafChain chain = new DeafChain();
        PlainModel model = new PlainModel();
        int calls = 0;
        while (calls < CALLS) {
            if (random.nextInt(6) == 0) {
                calls += type(run, random, chain, model);
            } else {
                step(run, calls, random, chain, model);
                calls++;
            }
            if (random.nextInt(25) == 0) {
                calls++;
                CHECK.equal("run " + run + ", call " + calls + ": digest()", chain.digest(), model.digest());
            }
        }
        CHECK.equal("run " + run + ": digest() at its end", chain.digest(), model.digest());
    }

    private static void step(int run, int call, Random random, DeafChain chain, PlainModel model) {
        String name = NAMES[random.nextInt(NAMES.length)];
        int a = someArgument(random);
        int b = someArgument(random);
        int c = someArgument(random);
        String what = "run " + run + ", call " + call + ": " + name + "(" + a + ", " + b + ", " + c + ")";
        CHECK.equalText(what, answer(chain, name, a, b, c), model.answer(name, a, b, c));
    }

    private static final String[] NAMES = {"teach", "teach", "teach", "ear", "ear", "fee", "go", "go", "append", "clearBuffer",
        "firstError", "obey", "stopped", "told", "undo", "keep", "restore", "meaning", "link", "waits", "arrival", "count",
        "lost", "ifGone", "ifGone", "lostAt", "worstEar", "costs", "throughShare"};

    private static int someArgument(Random random) {
        switch (random.nextInt(20)) {
            case 0:
                return random.nextInt(130) - 3;
            case 1:
                return random.nextBoolean() ? Integer.MAX_VALUE : Integer.MIN_VALUE;
            case 2:
            case 3:
                return random.nextInt(30);
            case 4:
                return -1;
            default:
                return random.nextInt(random.nextBoolean() ? 3 : 7);
        }
    }

    /** Types whole orders, sometimes with a wrong character, asks for the error and obeys; returns the calls made. */
    private static int type(int run, Random random, DeafChain chain, PlainModel model) {
        // In each third run few sentences go, so that eight of them come to wait.
        int goes = run % 3 == 0 ? 0 : 3;
        StringBuilder text = new StringBuilder(part(random, goes));
        for (int more = random.nextInt(9); more > 0; more--) {
            String next = ";" + part(random, goes);
            if (text.length() + next.length() <= 60 || random.nextInt(30) == 0) {
                text.append(next);
            }
        }
        text.setLength(Math.min(text.length(), LONGEST_TEXT));
        if (random.nextInt(4) == 0) {
            text.setCharAt(random.nextInt(text.length()), ";,#=:?0123sgeft".charAt(random.nextInt(15)));
        }
        if (random.nextInt(6) == 0) {
            text.setLength(random.nextInt(text.length() + 1));
        }
        if (random.nextInt(8) != 0) {
            CHECK.equalText("run " + run + ": clearBuffer()", answer(chain, "clearBuffer", 0, 0, 0),
                model.answer("clearBuffer", 0, 0, 0));
        }
        for (int index = 0; index < text.length(); index++) {
            CHECK.equalText("run " + run + ": append of " + text, answer(chain, "append", text.charAt(index), 0, 0),
                model.answer("append", text.charAt(index), 0, 0));
        }
        for (String name : List.of("firstError", "obey", "firstError")) {
            CHECK.equalText("run " + run + ": " + name + " of " + text, answer(chain, name, 0, 0, 0), model.answer(name, 0, 0, 0));
        }
        return text.length() + 4;
    }

    private static String part(Random random, int goes) {
        switch (random.nextInt(8 + goes)) {
            case 8:
            case 9:
            case 10:
                return "go";
            case 1:
                return "ear" + random.nextInt(6) + "=" + random.nextInt(10);
            case 2:
                return "fee" + random.nextInt(6) + "=" + random.nextInt(10);
            case 3:
                return "teach" + random.nextInt(6) + ":" + random.nextInt(30) + "="
                    + (random.nextInt(3) == 0 ? "?" : Integer.toString(random.nextInt(30)));
            case 4:
                return "say" + random.nextInt(30) + "#" + (1 + random.nextInt(9));
            default:
                return sentence(random);
        }
    }

    private static String sentence(Random random) {
        List<String> words = new ArrayList<>();
        for (int place = random.nextInt(13); place >= 0; place--) {
            words.add(Integer.toString(random.nextInt(random.nextBoolean() ? 10 : 30)));
        }
        return "say" + String.join(",", words) + (random.nextBoolean() ? "#" + (1 + random.nextInt(9)) : "");
    }

    private static String answer(DeafChain x, String name, int a, int b, int c) {
        if (name.equals("throughShare")) {
            return Double.toString(x.throughShare());
        }
        return Check.outcome(() -> call(x, name, a, b, c));
    }

    private static long call(DeafChain x, String name, int a, int b, int c) {
        switch (name) {
            case "teach": return x.teach(a, b, c);
            case "ear": return x.ear(a, b);
            case "fee": return x.fee(a, b);
            case "go": return x.go();
            case "append": return x.append(a);
            case "clearBuffer": return x.clearBuffer();
            case "firstError": return x.firstError();
            case "obey": return x.obey();
            case "stopped": return x.stopped(a);
            case "told": return x.told(a, b);
            case "undo": return x.undo();
            case "keep": return x.keep();
            case "restore": return x.restore();
            case "meaning": return x.meaning(a, b, c);
            case "link": return x.link(a, b);
            case "waits": return x.waits(a, b);
            case "arrival": return x.arrival(a, b);
            case "count": return x.count(a);
            case "lost": return x.lost(a, b);
            case "ifGone": return x.ifGone(a, b);
            case "lostAt": return x.lostAt(a);
            case "worstEar": return x.worstEar();
            case "costs": return x.costs();
            default: throw new AssertionError(name);
        }
    }
}
