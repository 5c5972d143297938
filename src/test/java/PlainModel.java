import java.util.ArrayDeque;
import java.util.ArrayList;
import java.util.Arrays;
import java.util.Collections;
import java.util.Comparator;
import java.util.Deque;
import java.util.HashSet;
import java.util.LinkedHashSet;
import java.util.List;
import java.util.regex.Matcher;
import java.util.regex.Pattern;

/** The document once more, in the plainest form that the Java library allows: lists, sorting and a regular expression. */
final class PlainModel {
    private static final String WORD = "(?:[0-9]|1[0-9]|2[0-9])";
    private static final String PART = "(?:say" + WORD + "(?:," + WORD + "){0,11}(?:#[1-9])?|go|ear[0-5]=[0-9]|fee[0-5]=[0-9]"
        + "|teach[0-5]:" + WORD + "=(?:" + WORD + "|\\?))";
    private static final Pattern TEXT = Pattern.compile(PART + "(?:;" + PART + ")*");

    private static final class Said {
        final List<Integer> words;
        final int urgency;

        Said(List<Integer> words, int urgency) {
            this.words = words;
            this.urgency = urgency;
        }
    }

    private static final class Arrived {
        final List<Integer> words;
        final int[] facts;

        Arrived(List<Integer> words, int... facts) {
            this.words = words;
            this.facts = facts;
        }
    }

    private static final class World {
        final int[][] dictionary = new int[6][30];
        final int[] ear = new int[6];
        final int[] fee = new int[6];
        final int[] missed = new int[6];
        final int[] paid = new int[6];
        final int[] lossIn = new int[6];
        final int[] lost = new int[30];
        List<Said> came = new ArrayList<>();
        List<Arrived> arrived = new ArrayList<>();
        int went;
        int stopPart = -1;
        int stopReason = -1;

        World copy() {
            World other = new World();
            for (int link = 0; link < 6; link++) {
                other.dictionary[link] = dictionary[link].clone();
            }
            int[][] from = {ear, fee, missed, paid, lossIn, lost};
            int[][] to = {other.ear, other.fee, other.missed, other.paid, other.lossIn, other.lost};
            for (int row = 0; row < from.length; row++) {
                System.arraycopy(from[row], 0, to[row], 0, from[row].length);
            }
            other.came = new ArrayList<>(came);
            other.arrived = new ArrayList<>(arrived);
            other.went = went;
            other.stopPart = stopPart;
            other.stopReason = stopReason;
            return other;
        }
    }

    private World world = new World();
    private World snapshot;
    private final Deque<World> saved = new ArrayDeque<>();
    private String buffer = "";

    PlainModel() {
        for (int link = 0; link < 6; link++) {
            world.fee[link] = 1;
            for (int word = 0; word < 30; word++) {
                world.dictionary[link][word] = word;
            }
        }
    }

    String answer(String name, int a, int b, int c) {
        if (name.equals("throughShare")) {
            return Double.toString(share());
        }
        return Check.outcome(() -> call(name, a, b, c));
    }

    private long call(String name, int a, int b, int c) {
        switch (name) {
            case "teach": return teach(a, b, c);
            case "ear": return set(world.ear, a, b);
            case "fee": return set(world.fee, a, b);
            case "go":
                state(!world.came.isEmpty());
                save();
                return go();
            case "append": return append(a);
            case "clearBuffer": {
                int length = buffer.length();
                buffer = "";
                return length;
            }
            case "firstError": return firstError();
            case "obey": return obey();
            case "stopped":
                argument(a == 0 || a == 1);
                return a == 0 ? world.stopPart : world.stopReason;
            case "told": {
                argument(in(a, 0, 5) && b >= 0);
                String text = a < world.arrived.size() ? text(a) : "";
                return b < text.length() ? text.charAt(b) : -1;
            }
            case "undo":
                state(!saved.isEmpty());
                world = saved.pop();
                return saved.size();
            case "keep":
                snapshot = world.copy();
                return world.came.size();
            case "restore":
                state(snapshot != null);
                save();
                world = snapshot.copy();
                return world.came.size();
            default: return look(name, a, b, c);
        }
    }

    private long look(String name, int a, int b, int c) {
        switch (name) {
            case "meaning": return meaning(a, b, c);
            case "link": return linkNumber(a, b);
            case "waits": {
                argument(a >= 0 && in(b, 0, 2));
                if (a >= world.came.size()) {
                    return -1;
                }
                Said said = ordered().get(a);
                return b == 0 ? said.words.size() : b == 1 ? said.urgency : said.words.get(0);
            }
            case "arrival":
                argument(in(a, 0, 5) && in(b, 0, 5));
                return a < world.arrived.size() ? world.arrived.get(a).facts[b] : -1;
            case "count": {
                argument(in(a, 0, 6));
                int[] numbers = {world.came.size(), world.went, world.arrived.size(), sum(world.lossIn), sum(world.paid),
                    sum(world.missed), saved.size()};
                return numbers[a];
            }
            case "lost": {
                argument(in(a, 0, 29) && in(b, 0, 1));
                List<Integer> words = new ArrayList<>();
                for (int word = 0; word < 30; word++) {
                    words.add(word);
                }
                words.sort(Comparator.comparing((Integer word) -> -world.lost[word]));
                return b == 0 ? words.get(a) : world.lost[words.get(a)];
            }
            case "ifGone": return ifGone(a, b);
            case "lostAt":
                argument(in(a, 0, 29));
                return lossBack(List.of(a), chain(List.of(a), new int[6]));
            case "worstEar": return worstEar();
            case "costs": {
                long sum = 0;
                for (Said said : world.came) {
                    sum += cost(chain(said.words, world.ear));
                }
                return sum;
            }
            default: throw new AssertionError(name);
        }
    }

    private static void index(boolean holds) {
        if (!holds) {
            throw new IndexOutOfBoundsException();
        }
    }

    private static void argument(boolean holds) {
        if (!holds) {
            throw new IllegalArgumentException();
        }
    }

    private static void state(boolean holds) {
        if (!holds) {
            throw new IllegalStateException();
        }
    }

    private static boolean in(int value, int low, int high) {
        return low <= value && value <= high;
    }

    private static int sum(int[] row) {
        return Arrays.stream(row).sum();
    }

    private void save() {
        saved.push(world.copy());
        if (saved.size() > 6) {
            saved.removeLast();
        }
    }

    private int teach(int link, int word, int meaning) {
        index(in(link, 0, 5));
        argument(in(word, 0, 29) && in(meaning, -1, 29));
        save();
        int before = world.dictionary[link][word];
        world.dictionary[link][word] = meaning;
        return before;
    }

    private int set(int[] row, int link, int value) {
        index(in(link, 0, 5));
        argument(in(value, 0, 9));
        save();
        int before = row[link];
        row[link] = value;
        return before;
    }

    private int append(int code) {
        argument(in(code, 33, 126));
        state(buffer.length() < 60);
        buffer += (char) code;
        return buffer.length();
    }

    /** A beginning can go on if the expression matches it, or comes to its end before it fails. */
    private static boolean canGoOn(String beginning) {
        Matcher matcher = TEXT.matcher(beginning);
        return matcher.matches() || matcher.hitEnd();
    }

    private int firstError() {
        for (int length = 1; length <= buffer.length(); length++) {
            if (!canGoOn(buffer.substring(0, length))) {
                return length - 1;
            }
        }
        return buffer.length();
    }

    private int obey() {
        argument(TEXT.matcher(buffer).matches());
        save();
        String[] parts = buffer.split(";");
        buffer = "";
        world.stopPart = -1;
        world.stopReason = -1;
        for (int part = 0; part < parts.length; part++) {
            int reason = obeyPart(parts[part]);
            if (reason != 0) {
                world.stopPart = part;
                world.stopReason = reason;
                return part;
            }
        }
        return parts.length;
    }

    private int obeyPart(String part) {
        if (part.equals("go")) {
            if (world.came.isEmpty()) {
                return 2;
            }
            go();
        } else if (part.startsWith("say")) {
            if (world.came.size() == 8) {
                return 1;
            }
            String[] halves = part.substring(3).split("#");
            List<Integer> words = new ArrayList<>();
            for (String word : halves[0].split(",")) {
                words.add(Integer.parseInt(word));
            }
            world.came.add(new Said(words, halves.length == 1 ? 1 : Integer.parseInt(halves[1])));
        } else if (part.startsWith("teach")) {
            String[] numbers = part.substring(5).split("[:=]");
            world.dictionary[Integer.parseInt(numbers[0])][Integer.parseInt(numbers[1])] =
                numbers[2].equals("?") ? -1 : Integer.parseInt(numbers[2]);
        } else {
            int[] row = part.startsWith("ear") ? world.ear : world.fee;
            row[part.charAt(3) - '0'] = part.charAt(5) - '0';
        }
        return 0;
    }

    private List<Said> ordered() {
        List<Said> order = new ArrayList<>(world.came);
        order.sort(Comparator.comparing((Said said) -> -said.urgency));
        return order;
    }

    /** What is said behind each link. */
    private List<List<Integer>> chain(List<Integer> words, int[] ears) {
        List<List<Integer>> rows = new ArrayList<>();
        List<Integer> heard = words;
        for (int link = 0; link < 6; link++) {
            List<Integer> said = new ArrayList<>();
            for (int place = 1; place <= heard.size(); place++) {
                if (ears[link] != 0 && place % (ears[link] + 1) == 0) {
                    continue;
                }
                int word = heard.get(place - 1);
                said.add(word == 30 || world.dictionary[link][word] == -1 ? 30 : world.dictionary[link][word]);
            }
            rows.add(said);
            heard = said;
        }
        return rows;
    }

    private int lossByRules(List<Integer> words, List<List<Integer>> rows) {
        List<Integer> heard = words;
        for (int link = 0; link < 6; link++) {
            if (rows.get(link).size() < heard.size()) {
                return link;
            }
            for (int word : heard) {
                if (word == 30) {
                    continue;
                }
                int meaning = world.dictionary[link][word];
                if (meaning == -1) {
                    return link;
                }
                for (int lower = 0; lower < word; lower++) {
                    if (world.dictionary[link][lower] == meaning) {
                        return link;
                    }
                }
            }
            heard = rows.get(link);
        }
        return -1;
    }

    private int lossBack(List<Integer> words, List<List<Integer>> rows) {
        for (int link = 0; link < 6; link++) {
            List<Integer> back = rows.get(link);
            for (int writer = link; writer >= 0; writer--) {
                List<Integer> written = new ArrayList<>();
                for (int word : back) {
                    written.add(lowestWith(writer, word));
                }
                back = written;
            }
            if (!back.equals(words)) {
                return link;
            }
        }
        return -1;
    }

    private int lowestWith(int link, int meaning) {
        int lowest = 30;
        for (int word = 29; word >= 0; word--) {
            if (world.dictionary[link][word] == meaning) {
                lowest = word;
            }
        }
        return lowest;
    }

    private int cost(List<List<Integer>> rows) {
        int cost = 0;
        for (int link = 0; link < 6; link++) {
            cost += rows.get(link).size() * world.fee[link];
        }
        return cost;
    }

    private int go() {
        Said said = ordered().get(0);
        world.came.remove(said);
        List<List<Integer>> rows = chain(said.words, world.ear);
        int heard = said.words.size();
        for (int link = 0; link < 6; link++) {
            world.missed[link] += heard - rows.get(link).size();
            heard = rows.get(link).size();
            world.paid[link] += heard * world.fee[link];
        }
        int loss = lossByRules(said.words, rows);
        if (loss != -1) {
            world.lossIn[loss]++;
            for (int word : new LinkedHashSet<>(said.words)) {
                List<Integer> alone = List.of(word);
                if (lossByRules(alone, chain(alone, new int[6])) != -1) {
                    world.lost[word]++;
                }
            }
        }
        world.went++;
        List<Integer> last = rows.get(5);
        world.arrived.add(0, new Arrived(last, last.size(), Collections.frequency(last, 30), cost(rows), loss,
            lossBack(said.words, rows), said.words.size()));
        if (world.arrived.size() > 6) {
            world.arrived.remove(6);
        }
        return last.size();
    }

    private String text(int back) {
        List<String> words = new ArrayList<>();
        for (int word : world.arrived.get(back).words) {
            words.add(word == 30 ? "?" : Integer.toString(word));
        }
        return String.join(",", words);
    }

    private int meaning(int link, int word, int what) {
        index(in(link, 0, 5));
        argument(in(word, 0, 29) && in(what, 0, 2));
        int meaning = world.dictionary[link][word];
        switch (what) {
            case 0: return meaning;
            case 1: return meaning == -1 ? 30 : lowestWith(link, meaning);
            default: return lowestWith(link, word);
        }
    }

    private int linkNumber(int link, int what) {
        index(in(link, 0, 5));
        argument(in(what, 0, 6));
        HashSet<Integer> seen = new HashSet<>();
        int none = 0;
        int like = 0;
        for (int meaning : world.dictionary[link]) {
            if (meaning == -1) {
                none++;
            } else if (!seen.add(meaning)) {
                like++;
            }
        }
        int[] numbers = {world.ear[link], world.fee[link], none, like, world.missed[link], world.paid[link], world.lossIn[link]};
        return numbers[what];
    }

    private int ifGone(int link, int what) {
        index(in(link, 0, 5));
        argument(in(what, 0, 3));
        if (world.came.isEmpty()) {
            return -1;
        }
        List<Integer> words = ordered().get(0).words;
        List<List<Integer>> rows = chain(words, world.ear);
        List<Integer> said = rows.get(link);
        List<Integer> heard = link == 0 ? words : rows.get(link - 1);
        int[] numbers = {said.size(), Collections.frequency(said, 30), said.size() * world.fee[link], heard.size() - said.size()};
        return numbers[what];
    }

    private int worstEar() {
        if (world.came.isEmpty()) {
            return -1;
        }
        List<Integer> words = ordered().get(0).words;
        int most = chain(words, world.ear).get(5).size();
        int worst = -1;
        for (int link = 0; link < 6; link++) {
            int[] ears = world.ear.clone();
            ears[link] = 0;
            int more = chain(words, ears).get(5).size();
            if (more > most) {
                most = more;
                worst = link;
            }
        }
        return worst;
    }

    private double share() {
        return world.went == 0 ? 1.0 : (double) (world.went - sum(world.lossIn)) / world.went;
    }

    long digest() {
        List<Long> values = new ArrayList<>();
        for (int what = 0; what < 7; what++) {
            values.add(call("count", what, 0, 0));
        }
        for (int link = 0; link < 6; link++) {
            addLink(values, link);
        }
        for (int place = 0; place < world.came.size(); place++) {
            for (int what = 0; what < 3; what++) {
                values.add(call("waits", place, what, 0));
            }
        }
        for (int back = 0; back < world.arrived.size(); back++) {
            for (int what = 0; what < 6; what++) {
                values.add(call("arrival", back, what, 0));
            }
            text(back).chars().forEach(code -> values.add((long) code));
        }
        for (int place = 0; place < 5; place++) {
            values.add(call("lost", place, 0, 0));
            values.add(call("lost", place, 1, 0));
        }
        for (int word = 0; word < 30; word++) {
            values.add(call("lostAt", word, 0, 0));
        }
        values.add((long) world.stopPart);
        values.add((long) world.stopReason);
        values.add(call("worstEar", 0, 0, 0));
        values.add(call("costs", 0, 0, 0));
        values.add(Double.doubleToLongBits(share()));
        values.add((long) buffer.length());
        buffer.chars().forEach(code -> values.add((long) code));
        long hash = 3877;
        for (long value : values) {
            hash = 31 * hash + value;
        }
        return hash;
    }

    private void addLink(List<Long> values, int link) {
        for (int what = 0; what < 7; what++) {
            values.add((long) linkNumber(link, what));
        }
        for (int what = 0; what < 4; what++) {
            values.add((long) ifGone(link, what));
        }
        for (int word = 0; word < 30; word++) {
            for (int what = 0; what < 3; what++) {
                values.add((long) meaning(link, word, what));
            }
        }
    }
}
