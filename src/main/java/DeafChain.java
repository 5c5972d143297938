/** Interpreters in a chain from Basque to Finnish, each a little deaf. */
public final class DeafChain {
    public static final int NONE = -1;

    private static final int LINKS = 6;
    private static final int WORDS = 30;
    private static final int MUMBLE = 30;
    private static final int MAX_EAR = 9;
    private static final int MAX_FEE = 9;
    private static final int MAX_URGENCY = 9;
    private static final int MAX_SENTENCE = 12;
    private static final int MAX_WAITING = 8;
    private static final int MAX_ARRIVALS = 6;
    private static final int MAX_SAVED = 6;
    private static final int MAX_BUFFER = 60;
    private static final int FIRST_CODE = 33;
    private static final int LAST_CODE = 126;

    // What an arrival tells, by the numbers of arrival(back, what).
    private static final int ARRIVED = 0;
    private static final int MUMBLED = 1;
    private static final int PAID = 2;
    private static final int LOSS = 3;
    private static final int LOSS_BY_SENDING_BACK = 4;
    private static final int SENT = 5;
    private static final int FACTS = 6;

    // The kinds of orders as a text.
    private static final int SAY = 0;
    private static final int GO = 1;
    private static final int EAR = 2;
    private static final int FEE = 3;
    private static final int TEACH = 4;

    private static final int TOO_MANY_WAIT = 1;
    private static final int NONE_WAITS = 2;

    private static final int NUMBERS_OF_CHAIN = 7;
    private static final int NUMBERS_OF_LINK = 7;
    private static final int NUMBERS_OF_TRIAL = 4;
    private static final int NUMBERS_OF_WORD = 3;
    private static final int NUMBERS_OF_WAITING = 3;
    private static final int LOST_IN_DIGEST = 5;
    private static final long DIGEST_START = 3877L;

    private static final int EXPONENT_OF_ONE = 1023;
    private static final int MANTISSA_BITS = 52;

    private final State now = new State();
    private final History history = new History();
    private final Orders orders = new Orders();
    private final Sentence sentence = new Sentence();
    private final Trip trip = new Trip();
    private State snapshot;

    public DeafChain() {
    }

    // ---- links

    public int teach(int link, int word, int meaning) throws IndexOutOfBoundsException, IllegalArgumentException {
        checkLink(link);
        checkRange(word, 0, WORDS - 1);
        checkRange(meaning, NONE, WORDS - 1);
        history.save(now);
        int previous = now.links.meaningOf(link, word);
        now.links.setMeaning(link, word, meaning);
        return previous;
    }

    public int ear(int link, int ear) throws IndexOutOfBoundsException, IllegalArgumentException {
        checkLink(link);
        checkRange(ear, 0, MAX_EAR);
        history.save(now);
        int previous = now.links.ears[link];
        now.links.ears[link] = ear;
        return previous;
    }

    public int fee(int link, int fee) throws IndexOutOfBoundsException, IllegalArgumentException {
        checkLink(link);
        checkRange(fee, 0, MAX_FEE);
        history.save(now);
        int previous = now.links.fees[link];
        now.links.fees[link] = fee;
        return previous;
    }

    public int go() throws IllegalStateException {
        if (now.waiting.size == 0) {
            throw new IllegalStateException("no sentence waits");
        }
        history.save(now);
        return sendFirst();
    }

    // ---- texts

    public int append(int code) throws IllegalArgumentException, IllegalStateException {
        checkRange(code, FIRST_CODE, LAST_CODE);
        if (orders.length >= MAX_BUFFER) {
            throw new IllegalStateException("the buffer is full");
        }
        orders.add(code);
        return orders.length;
    }

    public int clearBuffer() {
        int previous = orders.length;
        orders.length = 0;
        return previous;
    }

    public int firstError() {
        orders.readAll();
        return orders.position;
    }

    public int obey() throws IllegalArgumentException {
        if (!orders.readAll()) {
            throw new IllegalArgumentException("the buffer is not complete orders");
        }
        history.save(now);
        int obeyed = 0;
        int reason = NONE;
        orders.startReading();
        for (int part = 0; part < MAX_BUFFER && reason == NONE && orders.readNextPart(); part++) {
            reason = obeyPart();
            if (reason == NONE) {
                obeyed++;
            }
        }
        orders.length = 0;
        now.stopPart = reason == NONE ? NONE : obeyed;
        now.stopReason = reason;
        return obeyed;
    }

    public int stopped(int what) throws IllegalArgumentException {
        checkRange(what, 0, 1);
        return what == 0 ? now.stopPart : now.stopReason;
    }

    public int told(int back, int index) throws IllegalArgumentException {
        checkRange(back, 0, MAX_ARRIVALS - 1);
        checkNotNegative(index);
        return now.arrivals.codeAt(back, index);
    }

    // ---- undo, the snapshot

    public int undo() throws IllegalStateException {
        State latest = history.latest();
        if (latest == null) {
            throw new IllegalStateException("no state is saved");
        }
        now.copyFrom(latest);
        history.dropLatest();
        return history.size;
    }

    public int keep() {
        State kept = snapshot;
        if (kept == null) {
            kept = new State();
            snapshot = kept;
        }
        kept.copyFrom(now);
        return now.waiting.size;
    }

    public int restore() throws IllegalStateException {
        State kept = snapshot;
        if (kept == null) {
            throw new IllegalStateException("there is no snapshot");
        }
        history.save(now);
        now.copyFrom(kept);
        return now.waiting.size;
    }

    // ---- looks; nothing is changed

    public int meaning(int link, int word, int what) throws IndexOutOfBoundsException, IllegalArgumentException {
        checkLink(link);
        checkRange(word, 0, WORDS - 1);
        checkRange(what, 0, NUMBERS_OF_WORD - 1);
        switch (what) {
            case 0:
                return now.links.meaningOf(link, word);
            case 1:
                return now.links.backFor(link, word);
            default:
                return now.links.lowestWith(link, word);
        }
    }

    public int link(int link, int what) throws IndexOutOfBoundsException, IllegalArgumentException {
        checkLink(link);
        checkRange(what, 0, NUMBERS_OF_LINK - 1);
        switch (what) {
            case 0:
                return now.links.ears[link];
            case 1:
                return now.links.fees[link];
            case 2:
                return now.links.wordsWithoutMeaning(link);
            case 3:
                return now.links.wordsLikeLowerOnes(link);
            case 4:
                return now.links.missed[link];
            case 5:
                return now.links.paid[link];
            default:
                return now.links.losses[link];
        }
    }

    public int waits(int place, int what) throws IllegalArgumentException {
        checkNotNegative(place);
        checkRange(what, 0, NUMBERS_OF_WAITING - 1);
        if (place >= now.waiting.size) {
            return NONE;
        }
        now.waiting.readInto(sentence, place);
        switch (what) {
            case 0:
                return sentence.length;
            case 1:
                return sentence.urgency;
            default:
                return sentence.words[0];
        }
    }

    public int arrival(int back, int what) throws IllegalArgumentException {
        checkRange(back, 0, MAX_ARRIVALS - 1);
        checkRange(what, 0, FACTS - 1);
        return now.arrivals.fact(back, what);
    }

    public int count(int what) throws IllegalArgumentException {
        checkRange(what, 0, NUMBERS_OF_CHAIN - 1);
        switch (what) {
            case 0:
                return now.waiting.size;
            case 1:
                return now.went;
            case 2:
                return now.arrivals.size;
            case 3:
                return sumOf(now.links.losses);
            case 4:
                return sumOf(now.links.paid);
            case 5:
                return sumOf(now.links.missed);
            default:
                return history.size;
        }
    }

    public int lost(int place, int what) throws IllegalArgumentException {
        checkRange(place, 0, WORDS - 1);
        checkRange(what, 0, 1);
        int word = now.wordLostAs(place);
        return what == 0 ? word : now.lostTimes[word];
    }

    // ---- what would be; nothing is changed

    public int ifGone(int link, int what) throws IndexOutOfBoundsException, IllegalArgumentException {
        checkLink(link);
        checkRange(what, 0, NUMBERS_OF_TRIAL - 1);
        if (now.waiting.size == 0) {
            return NONE;
        }
        tryWaiting(0, NONE);
        switch (what) {
            case 0:
                return trip.wordsBehind(link);
            case 1:
                return trip.mumblesBehind(link);
            case 2:
                return trip.payOf(link, now.links);
            default:
                return trip.missedBy(link);
        }
    }

    public int lostAt(int word) throws IllegalArgumentException {
        checkRange(word, 0, WORDS - 1);
        return now.links.lossOfWord(word);
    }

    public int worstEar() {
        if (now.waiting.size == 0) {
            return NONE;
        }
        tryWaiting(0, NONE);
        int most = trip.arrivedWords();
        int worst = NONE;
        for (int link = 0; link < LINKS; link++) {
            tryWaiting(0, link);
            if (trip.arrivedWords() > most) {
                most = trip.arrivedWords();
                worst = link;
            }
        }
        return worst;
    }

    public int costs() {
        int sum = 0;
        for (int place = 0; place < now.waiting.size; place++) {
            tryWaiting(place, NONE);
            sum += trip.payOfAll(now.links);
        }
        return sum;
    }

    public double throughShare() {
        int went = now.went;
        if (went == 0) {
            return 1.0;
        }
        int through = went - sumOf(now.links.losses);
        return (double) through / (double) went;
    }

    public long digest() {
        long hash = DIGEST_START;
        for (int what = 0; what < NUMBERS_OF_CHAIN; what++) {
            hash = hashed(hash, count(what));
        }
        for (int link = 0; link < LINKS; link++) {
            hash = hashedLink(hash, link);
        }
        hash = hashedWaiting(hash);
        hash = hashedArrivals(hash);
        hash = hashedLosses(hash);
        hash = hashed(hash, stopped(0));
        hash = hashed(hash, stopped(1));
        hash = hashed(hash, worstEar());
        hash = hashed(hash, costs());
        hash = hashed(hash, bitsOfShare(throughShare()));
        return hashedBuffer(hash);
    }

    private static void checkLink(int link) {
        if (link < 0 || link >= LINKS) {
            throw new IndexOutOfBoundsException("no such link");
        }
    }

    private static void checkRange(int value, int lowest, int highest) {
        if (value < lowest || value > highest) {
            throw new IllegalArgumentException("out of range");
        }
    }

    private static void checkNotNegative(int value) {
        if (value < 0) {
            throw new IllegalArgumentException("below 0");
        }
    }

    private static int sumOf(int[] row) {
        int sum = 0;
        for (int value : row) {
            sum += value;
        }
        return sum;
    }

    /** Sends a sentence that waits on a trial; with a link as mended its ear counts as 0. */
    private void tryWaiting(int place, int mended) {
        now.waiting.readInto(sentence, place);
        trip.send(sentence, now.links, mended);
    }

    private int sendFirst() {
        now.waiting.readInto(sentence, 0);
        now.waiting.removeFirst();
        trip.send(sentence, now.links, NONE);
        int loss = trip.lossByRules(now.links);
        now.links.account(trip, loss);
        if (loss != NONE) {
            now.countLostWords(sentence);
        }
        now.arrivals.add(trip, now.links, loss);
        now.went++;
        return trip.arrivedWords();
    }

    /** Returns the reason why the part cannot be obeyed, NONE if it is obeyed. */
    private int obeyPart() {
        switch (orders.kind) {
            case SAY:
                return now.waiting.add(orders.sentence) ? NONE : TOO_MANY_WAIT;
            case GO:
                if (now.waiting.size == 0) {
                    return NONE_WAITS;
                }
                sendFirst();
                return NONE;
            default:
                changeLink();
                return NONE;
        }
    }

    private void changeLink() {
        int link = orders.link;
        if (link < 0 || link >= LINKS) {
            return;
        }
        if (orders.kind == EAR) {
            now.links.ears[link] = orders.value;
        } else if (orders.kind == FEE) {
            now.links.fees[link] = orders.value;
        } else {
            now.links.setMeaning(link, orders.word, orders.value);
        }
    }

    private static long hashed(long hash, long value) {
        return 31L * hash + value;
    }

    private long hashedLink(long before, int link) {
        long hash = before;
        for (int what = 0; what < NUMBERS_OF_LINK; what++) {
            hash = hashed(hash, link(link, what));
        }
        for (int what = 0; what < NUMBERS_OF_TRIAL; what++) {
            hash = hashed(hash, ifGone(link, what));
        }
        for (int word = 0; word < WORDS; word++) {
            for (int what = 0; what < NUMBERS_OF_WORD; what++) {
                hash = hashed(hash, meaning(link, word, what));
            }
        }
        return hash;
    }

    private long hashedWaiting(long before) {
        long hash = before;
        for (int place = 0; place < now.waiting.size; place++) {
            for (int what = 0; what < NUMBERS_OF_WAITING; what++) {
                hash = hashed(hash, waits(place, what));
            }
        }
        return hash;
    }

    private long hashedArrivals(long before) {
        long hash = before;
        for (int back = 0; back < now.arrivals.size; back++) {
            for (int what = 0; what < FACTS; what++) {
                hash = hashed(hash, arrival(back, what));
            }
            int length = now.arrivals.textLength(back);
            for (int index = 0; index < length; index++) {
                hash = hashed(hash, told(back, index));
            }
        }
        return hash;
    }

    private long hashedLosses(long before) {
        long hash = before;
        for (int place = 0; place < LOST_IN_DIGEST; place++) {
            hash = hashed(hash, lost(place, 0));
            hash = hashed(hash, lost(place, 1));
        }
        for (int word = 0; word < WORDS; word++) {
            hash = hashed(hash, lostAt(word));
        }
        return hash;
    }

    private long hashedBuffer(long before) {
        long hash = hashed(before, orders.length);
        for (int index = 0; index < orders.length; index++) {
            hash = hashed(hash, orders.codeAt(index));
        }
        return hash;
    }

    /**
     * The bits of a share from 0.0 to 1.0, made by hand, as the function that the document names for
     * them is not in the part of the library that LANGUAGE.md leaves. Each step here is exact.
     */
    private static long bitsOfShare(double share) {
        if (share <= 0.0) {
            return 0L;
        }
        double mantissa = share;
        long exponent = EXPONENT_OF_ONE;
        for (int step = 1; step < EXPONENT_OF_ONE && mantissa < 1.0; step++) {
            mantissa = mantissa * 2.0;
            exponent--;
        }
        double fraction = (mantissa - 1.0) * (double) (1L << MANTISSA_BITS);
        return (exponent << MANTISSA_BITS) + (long) fraction;
    }

    /** One sentence, read from a text or from those that wait. */
    private static final class Sentence {
        final int[] words = new int[MAX_SENTENCE];
        int length;
        int urgency = 1;

        void begin() {
            length = 0;
            urgency = 1;
        }

        void addWord(int word) {
            if (length >= 0 && length < MAX_SENTENCE) {
                words[length] = word;
                length++;
            }
        }

        boolean hasWord(int word) {
            for (int place = 0; place < length; place++) {
                if (words[place] == word) {
                    return true;
                }
            }
            return false;
        }
    }

    /** What each link is like, and what was counted for it so far. */
    private static final class Links {
        final int[] meanings = new int[LINKS * WORDS];
        final int[] ears = new int[LINKS];
        final int[] fees = new int[LINKS];
        final int[] missed = new int[LINKS];
        final int[] paid = new int[LINKS];
        final int[] losses = new int[LINKS];

        Links() {
            for (int link = 0; link < LINKS; link++) {
                fees[link] = 1;
                for (int word = 0; word < WORDS; word++) {
                    meanings[link * WORDS + word] = word;
                }
            }
        }

        void copyFrom(Links other) {
            System.arraycopy(other.meanings, 0, meanings, 0, LINKS * WORDS);
            System.arraycopy(other.ears, 0, ears, 0, LINKS);
            System.arraycopy(other.fees, 0, fees, 0, LINKS);
            System.arraycopy(other.missed, 0, missed, 0, LINKS);
            System.arraycopy(other.paid, 0, paid, 0, LINKS);
            System.arraycopy(other.losses, 0, losses, 0, LINKS);
        }

        /** A mumble stands in no dictionary, so it has none, like a word without a meaning. */
        int meaningOf(int link, int word) {
            if (link < 0 || link >= LINKS || word < 0 || word >= WORDS) {
                return NONE;
            }
            return meanings[link * WORDS + word];
        }

        void setMeaning(int link, int word, int meaning) {
            if (link >= 0 && link < LINKS && word >= 0 && word < WORDS) {
                meanings[link * WORDS + word] = meaning;
            }
        }

        int saidFor(int link, int heard) {
            int meaning = meaningOf(link, heard);
            return meaning == NONE ? MUMBLE : meaning;
        }

        /** The lowest word with this meaning, MUMBLE without one; so a mumble comes back as one. */
        int lowestWith(int link, int meaning) {
            if (link < 0 || link >= LINKS) {
                return MUMBLE;
            }
            for (int word = 0; word < WORDS; word++) {
                if (meanings[link * WORDS + word] == meaning) {
                    return word;
                }
            }
            return MUMBLE;
        }

        /** Another word than the one that is asked for tells that the link loses it; a mumble stays one. */
        int backFor(int link, int word) {
            int meaning = meaningOf(link, word);
            return meaning == NONE ? MUMBLE : lowestWith(link, meaning);
        }

        /** The link that loses a word that is sent alone, and that no ear misses. */
        int lossOfWord(int sent) {
            int word = sent;
            for (int link = 0; link < LINKS; link++) {
                if (backFor(link, word) != word) {
                    return link;
                }
                word = saidFor(link, word);
            }
            return NONE;
        }

        int wordsWithoutMeaning(int link) {
            int words = 0;
            for (int word = 0; word < WORDS; word++) {
                if (meaningOf(link, word) == NONE) {
                    words++;
                }
            }
            return words;
        }

        int wordsLikeLowerOnes(int link) {
            int words = 0;
            for (int word = 0; word < WORDS; word++) {
                if (backFor(link, word) < word) {
                    words++;
                }
            }
            return words;
        }

        void account(Trip trip, int loss) {
            for (int link = 0; link < LINKS; link++) {
                missed[link] += trip.missedBy(link);
                paid[link] += trip.payOf(link, this);
            }
            if (loss >= 0 && loss < LINKS) {
                losses[loss]++;
            }
        }
    }

    /** The sentences that wait, in the order in which they would go. */
    private static final class Waiting {
        private final int[] words = new int[MAX_WAITING * MAX_SENTENCE];
        private final int[] lengths = new int[MAX_WAITING];
        private final int[] urgencies = new int[MAX_WAITING];
        int size;

        void copyFrom(Waiting other) {
            System.arraycopy(other.words, 0, words, 0, MAX_WAITING * MAX_SENTENCE);
            System.arraycopy(other.lengths, 0, lengths, 0, MAX_WAITING);
            System.arraycopy(other.urgencies, 0, urgencies, 0, MAX_WAITING);
            size = other.size;
        }

        /** Returns whether there was room for it. */
        boolean add(Sentence sentence) {
            if (size >= MAX_WAITING) {
                return false;
            }
            int place = size;
            while (place > 0 && urgencies[place - 1] < sentence.urgency) {
                copyPlace(place - 1, place);
                place--;
            }
            System.arraycopy(sentence.words, 0, words, place * MAX_SENTENCE, MAX_SENTENCE);
            lengths[place] = sentence.length;
            urgencies[place] = sentence.urgency;
            size++;
            return true;
        }

        void readInto(Sentence sentence, int place) {
            if (place >= 0 && place < size) {
                System.arraycopy(words, place * MAX_SENTENCE, sentence.words, 0, MAX_SENTENCE);
                sentence.length = lengths[place];
                sentence.urgency = urgencies[place];
            }
        }

        void removeFirst() {
            for (int place = 1; place < size; place++) {
                copyPlace(place, place - 1);
            }
            if (size > 0) {
                size--;
            }
        }

        private void copyPlace(int from, int to) {
            System.arraycopy(words, from * MAX_SENTENCE, words, to * MAX_SENTENCE, MAX_SENTENCE);
            lengths[to] = lengths[from];
            urgencies[to] = urgencies[from];
        }
    }

    /** The latest arrivals, from the latest one on. */
    private static final class Arrivals {
        private final int[] words = new int[MAX_ARRIVALS * MAX_SENTENCE];
        private final int[] facts = new int[MAX_ARRIVALS * FACTS];
        int size;

        void copyFrom(Arrivals other) {
            System.arraycopy(other.words, 0, words, 0, MAX_ARRIVALS * MAX_SENTENCE);
            System.arraycopy(other.facts, 0, facts, 0, MAX_ARRIVALS * FACTS);
            size = other.size;
        }

        void add(Trip trip, Links links, int loss) {
            for (int back = MAX_ARRIVALS - 1; back > 0; back--) {
                copyBack(back - 1, back);
            }
            size = Math.min(size + 1, MAX_ARRIVALS);
            trip.copyArrived(words);
            facts[ARRIVED] = trip.arrivedWords();
            facts[MUMBLED] = trip.mumblesBehind(LINKS - 1);
            facts[PAID] = trip.payOfAll(links);
            facts[LOSS] = loss;
            facts[LOSS_BY_SENDING_BACK] = trip.lossBySendingBack(links);
            facts[SENT] = trip.sentWords();
        }

        private void copyBack(int from, int to) {
            System.arraycopy(words, from * MAX_SENTENCE, words, to * MAX_SENTENCE, MAX_SENTENCE);
            System.arraycopy(facts, from * FACTS, facts, to * FACTS, FACTS);
        }

        int fact(int back, int what) {
            if (back < 0 || back >= size || what < 0 || what >= FACTS) {
                return NONE;
            }
            return facts[back * FACTS + what];
        }

        private int wordAt(int back, int place) {
            if (back < 0 || back >= size || place < 0 || place >= MAX_SENTENCE) {
                return MUMBLE;
            }
            return words[back * MAX_SENTENCE + place];
        }

        int textLength(int back) {
            int length = -1;
            for (int place = 0; place < fact(back, ARRIVED); place++) {
                length += 1 + widthOf(wordAt(back, place));
            }
            return Math.max(length, 0);
        }

        int codeAt(int back, int index) {
            int start = 0;
            for (int place = 0; place < fact(back, ARRIVED); place++) {
                if (place > 0 && index == start - 1) {
                    return ',';
                }
                int word = wordAt(back, place);
                int end = start + widthOf(word);
                if (index < end) {
                    return codeOf(word, index == end - 1);
                }
                start = end + 1;
            }
            return NONE;
        }

        private static int widthOf(int word) {
            return word == MUMBLE || word < 10 ? 1 : 2;
        }

        private static int codeOf(int word, boolean lastCharacter) {
            if (word == MUMBLE) {
                return '?';
            }
            return '0' + (lastCharacter ? word % 10 : word / 10);
        }
    }

    /** All that undo and the snapshot bring back. */
    private static final class State {
        final Links links = new Links();
        final Waiting waiting = new Waiting();
        final Arrivals arrivals = new Arrivals();
        final int[] lostTimes = new int[WORDS];
        int went;
        int stopPart = NONE;
        int stopReason = NONE;

        void copyFrom(State other) {
            links.copyFrom(other.links);
            waiting.copyFrom(other.waiting);
            arrivals.copyFrom(other.arrivals);
            System.arraycopy(other.lostTimes, 0, lostTimes, 0, WORDS);
            went = other.went;
            stopPart = other.stopPart;
            stopReason = other.stopReason;
        }

        void countLostWords(Sentence sent) {
            for (int word = 0; word < WORDS; word++) {
                if (sent.hasWord(word) && links.lossOfWord(word) != NONE) {
                    lostTimes[word]++;
                }
            }
        }

        /** The word at this place in the order of losses. */
        int wordLostAs(int place) {
            for (int word = 0; word < WORDS - 1; word++) {
                if (wordsLostBefore(word) == place) {
                    return word;
                }
            }
            return WORDS - 1;
        }

        private int wordsLostBefore(int word) {
            int before = 0;
            for (int other = 0; other < WORDS; other++) {
                int more = lostTimes[other] - lostTimes[word];
                if (more > 0 || more == 0 && other < word) {
                    before++;
                }
            }
            return before;
        }
    }

    /** The saved states, the oldest one first. */
    private static final class History {
        private final State[] saved = new State[MAX_SAVED];
        int size;

        void save(State state) {
            if (size >= MAX_SAVED) {
                dropOldest();
            }
            State slot = saved[size];
            if (slot == null) {
                slot = new State();
                saved[size] = slot;
            }
            slot.copyFrom(state);
            size++;
        }

        private void dropOldest() {
            // The dropped state goes behind the others, so that its rows are used again.
            State oldest = saved[0];
            for (int place = 1; place < MAX_SAVED; place++) {
                saved[place - 1] = saved[place];
            }
            saved[MAX_SAVED - 1] = oldest;
            size = MAX_SAVED - 1;
        }

        State latest() {
            return size > 0 ? saved[size - 1] : null;
        }

        void dropLatest() {
            if (size > 0) {
                size--;
            }
        }
    }

    /** A sentence on its way through all links. */
    private static final class Trip {
        // Row 0 is the sentence as it is sent; each link hears its own row and says the next one.
        private final int[] rows = new int[(LINKS + 1) * MAX_SENTENCE];
        private final int[] lengths = new int[LINKS + 1];
        private final int[] back = new int[MAX_SENTENCE];

        void send(Sentence sentence, Links links, int mended) {
            System.arraycopy(sentence.words, 0, rows, 0, MAX_SENTENCE);
            lengths[0] = sentence.length;
            for (int link = 0; link < LINKS; link++) {
                int ear = link == mended ? 0 : links.ears[link];
                int heard = link * MAX_SENTENCE;
                int said = heard + MAX_SENTENCE;
                int length = 0;
                for (int place = 0; place < lengths[link]; place++) {
                    if (!misses(ear, place + 1)) {
                        rows[said + length] = links.saidFor(link, rows[heard + place]);
                        length++;
                    }
                }
                lengths[link + 1] = length;
            }
        }

        private static boolean misses(int ear, int place) {
            return ear > 0 && place % (ear + 1) == 0;
        }

        int sentWords() {
            return lengths[0];
        }

        int arrivedWords() {
            return lengths[LINKS];
        }

        void copyArrived(int[] target) {
            System.arraycopy(rows, LINKS * MAX_SENTENCE, target, 0, MAX_SENTENCE);
        }

        int wordsBehind(int link) {
            return lengths[link + 1];
        }

        int mumblesBehind(int link) {
            int said = (link + 1) * MAX_SENTENCE;
            int mumbles = 0;
            for (int place = 0; place < lengths[link + 1]; place++) {
                if (rows[said + place] == MUMBLE) {
                    mumbles++;
                }
            }
            return mumbles;
        }

        int missedBy(int link) {
            return lengths[link] - lengths[link + 1];
        }

        int payOf(int link, Links links) {
            return lengths[link + 1] * links.fees[link];
        }

        int payOfAll(Links links) {
            int sum = 0;
            for (int link = 0; link < LINKS; link++) {
                sum += payOf(link, links);
            }
            return sum;
        }

        int lossByRules(Links links) {
            for (int link = 0; link < LINKS; link++) {
                if (missedBy(link) > 0 || losesSomeWord(link, links)) {
                    return link;
                }
            }
            return NONE;
        }

        /** Asked only of a link that misses nothing, so each word that it hears is said. */
        private boolean losesSomeWord(int link, Links links) {
            int heard = link * MAX_SENTENCE;
            for (int place = 0; place < lengths[link]; place++) {
                if (links.backFor(link, rows[heard + place]) != rows[heard + place]) {
                    return true;
                }
            }
            return false;
        }

        int lossBySendingBack(Links links) {
            for (int link = 0; link < LINKS; link++) {
                if (!comesBackFrom(link, links)) {
                    return link;
                }
            }
            return NONE;
        }

        private boolean comesBackFrom(int link, Links links) {
            int length = lengths[link + 1];
            if (length != lengths[0]) {
                return false;
            }
            System.arraycopy(rows, (link + 1) * MAX_SENTENCE, back, 0, MAX_SENTENCE);
            for (int writer = link; writer >= 0; writer--) {
                for (int place = 0; place < length; place++) {
                    back[place] = links.lowestWith(writer, back[place]);
                }
            }
            for (int place = 0; place < length; place++) {
                if (back[place] != rows[place]) {
                    return false;
                }
            }
            return true;
        }
    }

    /** The buffer, and a reader that takes its orders part by part. */
    private static final class Orders {
        private final int[] codes = new int[MAX_BUFFER];
        int length;
        int position;

        // What the part says that was read last.
        int kind;
        int link;
        int word;
        int value;
        final Sentence sentence = new Sentence();

        void add(int code) {
            if (length >= 0 && length < MAX_BUFFER) {
                codes[length] = code;
                length++;
            }
        }

        int codeAt(int index) {
            return index >= 0 && index < length ? codes[index] : NONE;
        }

        /** Returns whether the buffer is complete orders; the position is the first error, or the end. */
        boolean readAll() {
            startReading();
            for (int part = 0; part < MAX_BUFFER; part++) {
                if (!readPart()) {
                    return false;
                }
                if (position == length) {
                    return true;
                }
                if (!take(';')) {
                    return false;
                }
            }
            return false;
        }

        void startReading() {
            position = 0;
        }

        /** Reads on in orders that are complete; returns whether there was another part. */
        boolean readNextPart() {
            if (position > 0 && !take(';')) {
                return false;
            }
            return readPart();
        }

        private boolean readPart() {
            switch (codeAt(position)) {
                case 's':
                    kind = SAY;
                    return takeAll("say") && readSentence();
                case 'g':
                    kind = GO;
                    return takeAll("go");
                case 'e':
                    kind = EAR;
                    return takeAll("ear") && readSetting(MAX_EAR);
                case 'f':
                    kind = FEE;
                    return takeAll("fee") && readSetting(MAX_FEE);
                case 't':
                    kind = TEACH;
                    return takeAll("teach") && readLesson();
                default:
                    return false;
            }
        }

        private boolean readSentence() {
            sentence.begin();
            boolean more = true;
            for (int place = 1; place <= MAX_SENTENCE && more; place++) {
                int spoken = readWord();
                if (spoken == NONE) {
                    return false;
                }
                sentence.addWord(spoken);
                more = place < MAX_SENTENCE && take(',');
            }
            if (!take('#')) {
                return true;
            }
            sentence.urgency = readDigit(1, MAX_URGENCY);
            return sentence.urgency != NONE;
        }

        private boolean readSetting(int highest) {
            link = readDigit(0, LINKS - 1);
            if (link == NONE || !take('=')) {
                return false;
            }
            value = readDigit(0, highest);
            return value != NONE;
        }

        private boolean readLesson() {
            link = readDigit(0, LINKS - 1);
            if (link == NONE || !take(':')) {
                return false;
            }
            word = readWord();
            if (word == NONE || !take('=')) {
                return false;
            }
            if (take('?')) {
                value = NONE;
                return true;
            }
            value = readWord();
            return value != NONE;
        }

        private int readWord() {
            int number = readDigit(0, 9);
            if (number != 1 && number != 2) {
                return number;
            }
            int unit = readDigit(0, 9);
            return unit == NONE ? number : 10 * number + unit;
        }

        private int readDigit(int lowest, int highest) {
            int digit = codeAt(position) - '0';
            if (digit < lowest || digit > highest) {
                return NONE;
            }
            position++;
            return digit;
        }

        private boolean takeAll(String text) {
            for (int index = 0; index < text.length(); index++) {
                if (!take(text.charAt(index))) {
                    return false;
                }
            }
            return true;
        }

        private boolean take(int code) {
            if (codeAt(position) != code) {
                return false;
            }
            position++;
            return true;
        }
    }
}
