import java.util.Arrays;

/** How people talk, written down and understood. The words in capitals are the terms of DOC.md. */
public final class Turnwright {
    private static final int NONE = -1;

    private static final int SPEAKERS = 5;
    private static final int CODERS = 2;
    private static final int CODES = 5;
    private static final int KINDS = 7;
    private static final int MOST_WORDS = 120;
    private static final int MOST_CITES = 20;
    private static final int LAST_START = 20000;
    private static final int LONGEST_WORD = 50;
    private static final int FIRST_REST = 10;
    private static final int MOST_REST = 30;
    private static final int MOST_SHIFT = 100;
    private static final int MOST_TRIED_SHIFT = 20;
    private static final int LAST_DELAY = 50;
    private static final int PLAIN_DELAY = 7;

    private static final int CUT_OFF = 2;
    private static final int WHAT = 6;

    // Sets of KINDS: the sum of 2^k for the number k of each.
    private static final int ASKING_KINDS = 32 + 64;
    private static final int POINT_KINDS = 2 + ASKING_KINDS;
    private static final int TALK_KINDS = 1 + 4 + POINT_KINDS;
    private static final int AIR_KINDS = 8 + 16;
    private static final int MENDING_KINDS = 1 + 2 + 32;
    private static final int EXCUSING_KINDS = 8 + 64;

    private static final int TURN = 0;
    private static final int SIGN = 1;
    private static final int AIR = 2;

    private static final int PAUSE = 0;
    private static final int LATCH = 1;
    private static final int GAP = 2;
    private static final int OVERLAP = 3;

    private static final int CHOSEN = 0;
    private static final int GOING_ON = 1;
    private static final int TAKEN = 2;
    private static final int AGAINST = 3;

    // What ofWord, ofTurn, ofQuestion, talk and between may be asked: 0 to one below these.
    private static final int WORD_ASKS = 8;
    private static final int TURN_ASKS = 16;
    private static final int QUESTION_ASKS = 3;
    private static final int TALK_ASKS = 22;
    private static final int BETWEEN_ASKS = 3;

    // What ofTurn may be asked by name.
    private static final int SPEAKER = 0;
    private static final int START = 1;
    private static final int END = 2;
    private static final int SIZE = 3;
    private static final int FIRST = 4;
    private static final int NEXT = 5;
    private static final int ASKS = 6;
    private static final int OFF = 7;
    private static final int PASSAGE = 8;
    private static final int LASTING = 9;
    private static final int WAY = 10;
    private static final int INTERRUPTS = 11;
    private static final int EXCUSED = 12;
    private static final int QUESTION = 13;
    private static final int CODE = 14;

    // What ofQuestion may be asked by name.
    private static final int ANSWER = 0;
    private static final int DELAY = 1;
    private static final int INSERTS = 2;

    private static final String KIND_SIGNS = "o.-hx?!";

    private final Channels channels;
    private final Stretches now;
    private final Stretches trial;
    private final Turns turns;
    private final Pairs pairs;
    private final int[] citedWords;
    private int citeCount;
    private int restNow;
    private int refusedCount;

    public Turnwright() {
        channels = new Channels();
        now = new Stretches(channels);
        trial = new Stretches(channels);
        turns = new Turns(channels, now);
        pairs = new Pairs(turns);
        citedWords = new int[MOST_CITES];
        restNow = FIRST_REST;
    }

    // ---- what is told

    public int word(int speaker, int start, int length, int kind, int look)
            throws IndexOutOfBoundsException, IllegalArgumentException, IllegalStateException {
        requireSpeaker(speaker);
        if (look < NONE || look >= SPEAKERS) {
            throw new IndexOutOfBoundsException("look is not -1 to 4");
        }
        if (!isInRange(start, length) || kind < 0 || kind >= KINDS || look == speaker) {
            throw new IllegalArgumentException("start, length, kind or look is not of a word");
        }
        if (!channels.hasRoom(speaker, start, start + length)) {
            throw new IllegalStateException("there is no room for the word");
        }
        int number = channels.add(speaker, start, start + length, kind, look);
        readAgain();
        return number;
    }

    public int rest(int rest) throws IllegalArgumentException {
        if (rest < 1 || rest > MOST_REST) {
            throw new IllegalArgumentException("rest is not 1 to 30");
        }
        int before = restNow;
        restNow = rest;
        readAgain();
        return before;
    }

    public int shift(int speaker, int shift) throws IndexOutOfBoundsException, IllegalArgumentException {
        requireSpeaker(speaker);
        if (shift < -MOST_SHIFT || shift > MOST_SHIFT) {
            throw new IllegalArgumentException("shift is not -100 to 100");
        }
        int before = at(channels.shifts, speaker);
        put(channels.shifts, speaker, shift);
        readAgain();
        return before;
    }

    public int withdraw(int speaker) throws IndexOutOfBoundsException, IllegalStateException {
        requireSpeaker(speaker);
        if (channels.isWithdrawn(speaker)) {
            throw new IllegalStateException("the speaker is withdrawn");
        }
        channels.takeOut(speaker);
        readAgain();
        return at(channels.sizes, speaker);
    }

    public int code(int coder, int turn, int code) throws IndexOutOfBoundsException, IllegalArgumentException {
        if (coder < 0 || coder >= CODERS) {
            throw new IndexOutOfBoundsException("coder is not 0 or 1");
        }
        requireTurn(turn);
        if (code < 0 || code >= CODES) {
            throw new IllegalArgumentException("code is not 0 to 4");
        }
        int first = at(turns.facts, FIRST, turn);
        int before = at(channels.codes, coder, first);
        put(channels.codes, coder, first, code);
        readAgain();
        return before;
    }

    public int cite(int turn) throws IndexOutOfBoundsException, IllegalStateException {
        requireTurn(turn);
        if (citeCount >= MOST_CITES) {
            throw new IllegalStateException("there are 20 cites");
        }
        put(citedWords, citeCount, at(turns.facts, FIRST, turn));
        citeCount++;
        return citeCount - 1;
    }

    public int call() {
        refusedCount++;
        return refusedCount;
    }

    // ---- what is asked

    public int ofWord(int word, int what) throws IndexOutOfBoundsException, IllegalArgumentException {
        if (word < 0 || word >= channels.count) {
            throw new IndexOutOfBoundsException("there is no such word");
        }
        requireAsk(what, WORD_ASKS);
        return wordAnswer(word, what);
    }

    public int ofTurn(int turn, int what) throws IndexOutOfBoundsException, IllegalArgumentException {
        requireTurn(turn);
        requireAsk(what, TURN_ASKS);
        return at(turns.facts, what, turn);
    }

    public int ofQuestion(int turn, int what) throws IndexOutOfBoundsException, IllegalArgumentException {
        requireTurn(turn);
        requireAsk(what, QUESTION_ASKS);
        return at(pairs.facts, what, turn);
    }

    public int talk(int what) throws IllegalArgumentException {
        requireAsk(what, TALK_ASKS);
        return talkAnswer(what);
    }

    public int between(int one, int two, int what) throws IndexOutOfBoundsException, IllegalArgumentException {
        requireTwoSpeakers(one, two);
        requireAsk(what, BETWEEN_ASKS);
        return turns.following(one, two, what);
    }

    public double mean(int one, int two) throws IndexOutOfBoundsException, IllegalArgumentException {
        requireTwoSpeakers(one, two);
        int many = turns.following(one, two, 0);
        return many == 0 ? 0.0 : (double) turns.following(one, two, 1) / (double) many;
    }

    public int said(int speaker) throws IndexOutOfBoundsException {
        requireSpeaker(speaker);
        return channels.talkTime(speaker);
    }

    public double floor(int speaker) throws IndexOutOfBoundsException {
        requireSpeaker(speaker);
        int all = 0;
        for (int other = 0; other < SPEAKERS; other++) {
            all += channels.talkTime(other);
        }
        return all == 0 ? 0.0 : (double) channels.talkTime(speaker) / (double) all;
    }

    public int test(boolean isShuffled) {
        return turns.smoothFrom(isShuffled ? 2 : 1);
    }

    public double agreement() {
        int many = 0;
        int same = 0;
        int chance = 0;
        for (int code = 0; code < CODES; code++) {
            int byFirst = turns.codedTwice(code, NONE);
            many += byFirst;
            same += turns.codedTwice(code, code);
            chance += byFirst * turns.codedTwice(NONE, code);
        }
        int most = many * many - chance;
        return most == 0 ? 1.0 : (double) (many * same - chance) / (double) most;
    }

    public int cited(int cite) throws IndexOutOfBoundsException {
        if (cite < 0 || cite >= citeCount) {
            throw new IndexOutOfBoundsException("there is no such cite");
        }
        return now.turnWith(at(citedWords, cite));
    }

    public String row(int turn) throws IndexOutOfBoundsException {
        requireTurn(turn);
        StringBuilder text = new StringBuilder();
        text.append(turn).append(' ').append((char) ('A' + now.turn(turn).speaker)).append(": ");
        appendWords(text, now.turn(turn));
        int passage = turn + 1 < now.turnCount ? at(turns.facts, PASSAGE, turn + 1) : NONE;
        if (passage == OVERLAP) {
            text.append(']');
        } else if (passage == LATCH) {
            text.append('=');
        }
        return text.toString();
    }

    // ---- what would be (nothing is changed)

    public boolean fits(int speaker, int start, int length) throws IndexOutOfBoundsException {
        requireSpeaker(speaker);
        return isInRange(start, length) && channels.hasRoom(speaker, start, start + length);
    }

    public int wouldCome(int speaker) throws IndexOutOfBoundsException {
        requireSpeaker(speaker);
        return turns.wayBehindLast(speaker);
    }

    public int bestRest(boolean isMany) {
        int best = 0;
        int most = NONE;
        for (int rest = 1; rest <= MOST_REST; rest++) {
            trial.gather(rest);
            trial.arrange(NONE, 0);
            if (trial.turnCount > most) {
                best = rest;
                most = trial.turnCount;
            }
        }
        return isMany ? most : best;
    }

    public int bestShift(int speaker) throws IndexOutOfBoundsException {
        requireSpeaker(speaker);
        return leastShift(speaker);
    }

    public boolean isSound() {
        return areStretchesSorted() && arePassagesAll() && pairs.areSound() && channels.areApart()
                && pairs.unanswered() <= turns.countThat(ASKS, 1);
    }

    public long digest() {
        long d = 4111;
        for (int what = 0; what < TALK_ASKS; what++) {
            d = d * 31 + talkAnswer(what);
        }
        d = withWords(d);
        d = withTurns(d);
        d = withSpeakers(d);
        d = d * 31 + test(false);
        d = d * 31 + test(true);
        int all = citeCount;
        for (int cite = 0; cite < all; cite++) {
            d = d * 31 + now.turnWith(at(citedWords, cite));
        }
        d = d * 31 + bestRest(false);
        d = d * 31 + bestRest(true);
        d = d * 31 + (long) (64 * agreement());
        return d * 31 + (isSound() ? 1 : 0);
    }

    // ---- tests of the arguments

    private static void requireSpeaker(int speaker) {
        if (speaker < 0 || speaker >= SPEAKERS) {
            throw new IndexOutOfBoundsException("a speaker is not 0 to 4");
        }
    }

    private static void requireTwoSpeakers(int one, int two) {
        requireSpeaker(one);
        requireSpeaker(two);
        if (one == two) {
            throw new IllegalArgumentException("both speakers are the same");
        }
    }

    private void requireTurn(int turn) {
        if (turn < 0 || turn >= now.turnCount) {
            throw new IndexOutOfBoundsException("there is no such turn");
        }
    }

    private static void requireAsk(int what, int asks) {
        if (what < 0 || what >= asks) {
            throw new IllegalArgumentException("what is not among those that are answered");
        }
    }

    private static boolean isInRange(int start, int length) {
        return start >= 0 && start <= LAST_START && length >= 1 && length <= LONGEST_WORD;
    }

    // ---- rows of numbers: each place is looked at here, so that no index is ever used unseen

    /** The number at a place; NONE, if the row has no such place. */
    private static int at(int[] row, int place) {
        return place >= 0 && place < row.length ? row[place] : NONE;
    }

    private static int at(int[][] rows, int row, int place) {
        return row >= 0 && row < rows.length && place >= 0 && place < rows[row].length ? rows[row][place] : NONE;
    }

    /** Puts a number at a place; nothing happens, if the row has no such place. */
    private static void put(int[] row, int place, int number) {
        if (place >= 0 && place < row.length) {
            row[place] = number;
        }
    }

    private static void put(int[][] rows, int row, int place, int number) {
        if (row >= 0 && row < rows.length && place >= 0 && place < rows[row].length) {
            rows[row][place] = number;
        }
    }

    // ---- what lies behind the answers

    private static boolean isAmong(int kind, int kinds) {
        return ((1 << kind) & kinds) != 0;
    }

    private static char signOf(int kind) {
        return kind >= 0 && kind < KIND_SIGNS.length() ? KIND_SIGNS.charAt(kind) : ' ';
    }

    private void readAgain() {
        now.gather(restNow);
        now.arrange(NONE, 0);
        turns.read();
        pairs.match();
    }

    private int wordAnswer(int number, int what) {
        Word word = channels.wordWith(number);
        switch (what) {
            case 0: return word.speaker;
            case 1: return word.start + at(channels.shifts, word.speaker);
            case 2: return word.end + at(channels.shifts, word.speaker);
            case 3: return word.kind;
            case 4: return word.look;
            case 5: return channels.isWithdrawn(word.speaker) ? 0 : 1;
            case 6: return now.turnWith(number);
            default: return now.sizeWith(number);
        }
    }

    private int talkAnswer(int what) {
        switch (what) {
            case 0: return channels.count;
            case 1: return channels.counting();
            case 2: return now.count;
            case 3: return now.turnCount;
            case 4: return now.countOf(SIGN);
            case 5: return now.countOf(AIR);
            case 6: return turns.countThat(PASSAGE, PAUSE);
            case 7: return turns.countThat(PASSAGE, LATCH);
            case 8: return turns.countThat(PASSAGE, GAP);
            case 9: return turns.countThat(PASSAGE, OVERLAP);
            case 10: return turns.countThat(INTERRUPTS, 1);
            case 11: return turns.countThat(EXCUSED, 1);
            case 12: return turns.countThat(WAY, AGAINST);
            case 13: return turns.countThat(ASKS, 1);
            case 14: return pairs.unanswered();
            case 15: return now.selfRepairs(false);
            case 16: return now.selfRepairs(true);
            case 17: return turns.otherRepairs(false);
            case 18: return turns.otherRepairs(true);
            case 19: return citeCount;
            case 20: return restNow;
            default: return refusedCount;
        }
    }

    private void appendWords(StringBuilder text, Stretch stretch) {
        int size = stretch.size;
        for (int place = 0; place < size; place++) {
            Word word = now.wordOf(stretch, place);
            if (place > 0) {
                int hush = Math.min(3, word.start - now.wordOf(stretch, place - 1).end);
                for (int tenth = 0; tenth < hush; tenth++) {
                    text.append('_');
                }
            }
            text.append(signOf(word.kind));
        }
    }

    /** Tries 0, -1, 1, -2, 2 and so on, so that of several with the least sum the due one comes first. */
    private int leastShift(int speaker) {
        if (channels.isWithdrawn(speaker) || at(channels.sizes, speaker) == 0) {
            return 0;
        }
        int best = 0;
        int least = 0;
        trial.gather(restNow);
        for (int step = 0; step <= 2 * MOST_TRIED_SHIFT; step++) {
            int shift = step % 2 == 0 ? step / 2 : -(step + 1) / 2;
            trial.arrange(speaker, shift);
            int sum = trial.sumOfOffs();
            if (step == 0 || sum < least) {
                best = shift;
                least = sum;
            }
        }
        return best;
    }

    private boolean areStretchesSorted() {
        return now.turnCount + now.countOf(SIGN) + now.countOf(AIR) == now.count;
    }

    private boolean arePassagesAll() {
        int all = turns.countThat(PASSAGE, PAUSE) + turns.countThat(PASSAGE, LATCH)
                + turns.countThat(PASSAGE, GAP) + turns.countThat(PASSAGE, OVERLAP);
        return all == Math.max(0, now.turnCount - 1);
    }

    private long withWords(long before) {
        long d = before;
        int all = channels.count;
        for (int word = 0; word < all; word++) {
            d = d * 31 + wordAnswer(word, 1);
            d = d * 31 + wordAnswer(word, 5);
            d = d * 31 + wordAnswer(word, 6);
            d = d * 31 + wordAnswer(word, 7);
        }
        return d;
    }

    private long withTurns(long before) {
        long d = before;
        int all = now.turnCount;
        for (int turn = 0; turn < all; turn++) {
            for (int what = 0; what < TURN_ASKS; what++) {
                d = d * 31 + at(turns.facts, what, turn);
            }
            for (int what = 0; what < QUESTION_ASKS; what++) {
                d = d * 31 + at(pairs.facts, what, turn);
            }
        }
        return d;
    }

    private long withSpeakers(long before) {
        long d = before;
        for (int speaker = 0; speaker < SPEAKERS; speaker++) {
            d = d * 31 + channels.talkTime(speaker);
            d = d * 31 + turns.wayBehindLast(speaker);
            d = d * 31 + leastShift(speaker);
            for (int other = 0; other < SPEAKERS; other++) {
                for (int what = 0; other != speaker && what < BETWEEN_ASKS; what++) {
                    d = d * 31 + turns.following(speaker, other, what);
                }
            }
        }
        return d;
    }

    /** A WORD with the times of its channel, without SHIFT. */
    private static final class Word {
        int number;
        int speaker;
        int start;
        int end;
        int kind;
        int look;

        boolean isOf(int kinds) {
            return isAmong(kind, kinds);
        }
    }

    /** What was told of the WORDS, and of each SPEAKER their order on its channel. */
    private static final class Channels {
        final Word[] words = new Word[MOST_WORDS];
        /** Stands in where there is no WORD, so that no reference is ever null. */
        final Word noWord = new Word();
        final int[][] codes = new int[CODERS][MOST_WORDS];
        final int[][] orders = new int[SPEAKERS][MOST_WORDS];
        final int[] sizes = new int[SPEAKERS];
        final int[] shifts = new int[SPEAKERS];
        final boolean[] areWithdrawn = new boolean[SPEAKERS];
        int count;

        Channels() {
            for (int number = 0; number < words.length; number++) {
                words[number] = new Word();
            }
            for (int[] byCoder : codes) {
                Arrays.fill(byCoder, NONE);
            }
        }

        Word wordWith(int number) {
            Word word = number >= 0 && number < words.length ? words[number] : noWord;
            return word == null ? noWord : word;
        }

        Word wordAt(int speaker, int place) {
            return wordWith(at(orders, speaker, place));
        }

        boolean isWithdrawn(int speaker) {
            return speaker >= 0 && speaker < areWithdrawn.length && areWithdrawn[speaker];
        }

        void takeOut(int speaker) {
            if (speaker >= 0 && speaker < areWithdrawn.length) {
                areWithdrawn[speaker] = true;
            }
        }

        boolean hasRoom(int speaker, int start, int end) {
            return count < MOST_WORDS && !isWithdrawn(speaker) && isFree(speaker, start, end);
        }

        private boolean isFree(int speaker, int start, int end) {
            int size = at(sizes, speaker);
            for (int place = 0; place < size; place++) {
                Word other = wordAt(speaker, place);
                if (other.start < end && start < other.end) {
                    return false;
                }
            }
            return true;
        }

        /** Keeps a WORD for which there is room. */
        int add(int speaker, int start, int end, int kind, int look) {
            Word word = wordWith(count);
            word.number = count;
            word.speaker = speaker;
            word.start = start;
            word.end = end;
            word.kind = kind;
            word.look = look;
            insert(word);
            count++;
            return word.number;
        }

        /** Moves all that start later up by one place, from the last one on. */
        private void insert(Word word) {
            int size = at(sizes, word.speaker);
            int free = size;
            for (int place = size - 1; place >= 0 && wordAt(word.speaker, place).start > word.start; place--) {
                put(orders, word.speaker, place + 1, at(orders, word.speaker, place));
                free = place;
            }
            put(orders, word.speaker, free, word.number);
            put(sizes, word.speaker, size + 1);
        }

        int counting() {
            int many = 0;
            for (int speaker = 0; speaker < SPEAKERS; speaker++) {
                many += isWithdrawn(speaker) ? 0 : at(sizes, speaker);
            }
            return many;
        }

        int talkTime(int speaker) {
            int time = 0;
            int size = isWithdrawn(speaker) ? 0 : at(sizes, speaker);
            for (int place = 0; place < size; place++) {
                Word word = wordAt(speaker, place);
                time += word.isOf(TALK_KINDS) ? word.end - word.start : 0;
            }
            return time;
        }

        boolean areApart() {
            for (int speaker = 0; speaker < SPEAKERS; speaker++) {
                int size = at(sizes, speaker);
                for (int place = 1; place < size; place++) {
                    if (wordAt(speaker, place - 1).end > wordAt(speaker, place).start) {
                        return false;
                    }
                }
            }
            return true;
        }
    }

    /** A STRETCH: a row of WORDS on a channel, with its times by SHIFT. */
    private static final class Stretch {
        int speaker;
        int firstPlace;
        int size;
        int kinds;
        int start;
        int end;
        int sort;
        int turn;
    }

    /** The STRETCHES by one REST, with their sorts and the order of the TURNS among them. */
    private static final class Stretches {
        final Channels channels;
        final Stretch[] stretches = new Stretch[MOST_WORDS];
        /** Stands in where there is no STRETCH, so that no reference is ever null. */
        final Stretch noStretch = new Stretch();
        /** By SPEAKER the number of its first STRETCH; behind the last SPEAKER how many there are. */
        final int[] firsts = new int[SPEAKERS + 1];
        final int[] heads = new int[SPEAKERS];
        final int[] longOnes = new int[MOST_WORDS];
        final int[] turnStretches = new int[MOST_WORDS];
        final int[] stretchesOfWords = new int[MOST_WORDS];
        int count;
        int longCount;
        int turnCount;

        Stretches(Channels channels) {
            this.channels = channels;
            for (int number = 0; number < stretches.length; number++) {
                stretches[number] = new Stretch();
            }
        }

        Stretch stretchWith(int number) {
            Stretch stretch = number >= 0 && number < stretches.length ? stretches[number] : noStretch;
            return stretch == null ? noStretch : stretch;
        }

        Stretch turn(int turn) {
            return stretchWith(at(turnStretches, turn));
        }

        Word wordOf(Stretch stretch, int place) {
            return channels.wordWith(at(channels.orders, stretch.speaker, stretch.firstPlace + place));
        }

        Word lastWordOf(Stretch stretch) {
            return wordOf(stretch, stretch.size - 1);
        }

        int turnWith(int word) {
            int stretch = at(stretchesOfWords, word);
            return stretch == NONE ? NONE : stretchWith(stretch).turn;
        }

        int sizeWith(int word) {
            int stretch = at(stretchesOfWords, word);
            return stretch == NONE ? 0 : stretchWith(stretch).size;
        }

        int countOf(int sort) {
            int many = 0;
            int all = count;
            for (int number = 0; number < all; number++) {
                many += stretchWith(number).sort == sort ? 1 : 0;
            }
            return many;
        }

        /** Finds the STRETCHES, SPEAKER by SPEAKER: SHIFT does not matter to that. */
        void gather(int rest) {
            Arrays.fill(stretchesOfWords, NONE);
            count = 0;
            for (int speaker = 0; speaker < SPEAKERS; speaker++) {
                put(firsts, speaker, count);
                if (!channels.isWithdrawn(speaker)) {
                    gatherOf(speaker, rest);
                }
            }
            put(firsts, SPEAKERS, count);
            findLongOnes();
        }

        private void gatherOf(int speaker, int rest) {
            int size = at(channels.sizes, speaker);
            for (int place = 0; place < size; place++) {
                Word word = channels.wordAt(speaker, place);
                if (place == 0 || word.start - channels.wordAt(speaker, place - 1).end > rest) {
                    open(speaker, place);
                }
                Stretch stretch = stretchWith(count - 1);
                stretch.size++;
                stretch.kinds |= 1 << word.kind;
                put(stretchesOfWords, word.number, count - 1);
            }
        }

        private void open(int speaker, int place) {
            Stretch stretch = stretchWith(count);
            stretch.speaker = speaker;
            stretch.firstPlace = place;
            stretch.size = 0;
            stretch.kinds = 0;
            count++;
        }

        private void findLongOnes() {
            longCount = 0;
            int all = count;
            for (int number = 0; number < all; number++) {
                if (stretchWith(number).size >= 3) {
                    put(longOnes, longCount, number);
                    longCount++;
                }
            }
        }

        /** Sorts the STRETCHES and numbers the TURNS, with another SHIFT for the one who is moved (NONE). */
        void arrange(int moved, int shift) {
            int all = count;
            for (int number = 0; number < all; number++) {
                Stretch stretch = stretchWith(number);
                int added = stretch.speaker == moved ? shift : at(channels.shifts, stretch.speaker);
                stretch.start = wordOf(stretch, 0).start + added;
                stretch.end = lastWordOf(stretch).end + added;
            }
            for (int number = 0; number < all; number++) {
                Stretch stretch = stretchWith(number);
                stretch.sort = sortOf(stretch);
            }
            numberTurns();
        }

        private int sortOf(Stretch stretch) {
            if (stretch.size <= 2 && (stretch.kinds & ASKING_KINDS) == 0 && isWithinAnother(stretch)) {
                return SIGN;
            }
            return (stretch.kinds & ~AIR_KINDS) == 0 ? AIR : TURN;
        }

        private boolean isWithinAnother(Stretch stretch) {
            int all = longCount;
            for (int index = 0; index < all; index++) {
                Stretch other = stretchWith(at(longOnes, index));
                if (other.speaker != stretch.speaker && other.start <= stretch.start && other.end >= stretch.end) {
                    return true;
                }
            }
            return false;
        }

        private void numberTurns() {
            turnCount = 0;
            for (int speaker = 0; speaker < SPEAKERS; speaker++) {
                put(heads, speaker, at(firsts, speaker));
            }
            int all = count;
            for (int taken = 0; taken < all; taken++) {
                int number = takeEarliest();
                Stretch stretch = stretchWith(number);
                stretch.turn = NONE;
                if (stretch.sort == TURN) {
                    stretch.turn = turnCount;
                    put(turnStretches, turnCount, number);
                    turnCount++;
                }
            }
        }

        /** Takes the STRETCH with the smallest START (of several by the SPEAKER) of those not taken yet. */
        private int takeEarliest() {
            int earliest = 0;
            int taker = NONE;
            for (int speaker = 0; speaker < SPEAKERS; speaker++) {
                int head = at(heads, speaker);
                if (head < at(firsts, speaker + 1)
                        && (taker == NONE || stretchWith(head).start < stretchWith(earliest).start)) {
                    earliest = head;
                    taker = speaker;
                }
            }
            put(heads, taker, at(heads, taker) + 1);
            return earliest;
        }

        /** The sum of ABS of OFF of all TURNS with another SPEAKER than the one ahead. */
        int sumOfOffs() {
            int sum = 0;
            int all = turnCount;
            for (int number = 1; number < all; number++) {
                Stretch ahead = turn(number - 1);
                Stretch turn = turn(number);
                sum += turn.speaker == ahead.speaker ? 0 : Math.abs(turn.start - ahead.end);
            }
            return sum;
        }

        int selfRepairs(boolean isDone) {
            int many = 0;
            int all = count;
            for (int number = 0; number < all; number++) {
                many += selfRepairsOf(stretchWith(number), isDone);
            }
            return many;
        }

        /** Goes from the last WORD to the first one, so that what follows each is known. */
        private int selfRepairsOf(Stretch stretch, boolean isDone) {
            int many = 0;
            boolean isMended = false;
            for (int place = stretch.size - 1; place >= 0; place--) {
                Word word = wordOf(stretch, place);
                if (word.kind == CUT_OFF && place < stretch.size - 1 && (isMended || !isDone)) {
                    many++;
                }
                isMended = isMended || word.isOf(MENDING_KINDS);
            }
            return many;
        }
    }

    /** What there is to tell of the TURNS, read anew whenever something is told. */
    private static final class Turns {
        final Channels channels;
        final Stretches stretches;
        /** By what ofTurn is asked and by TURN: the answer. */
        final int[][] facts = new int[TURN_ASKS][MOST_WORDS];

        Turns(Channels channels, Stretches stretches) {
            this.channels = channels;
            this.stretches = stretches;
        }

        int count() {
            return stretches.turnCount;
        }

        void read() {
            int all = count();
            for (int turn = 0; turn < all; turn++) {
                readAlone(turn, stretches.turn(turn));
                readPassage(turn);
                readConduct(turn, stretches.turn(turn));
            }
        }

        private void readAlone(int turn, Stretch stretch) {
            int first = stretches.wordOf(stretch, 0).number;
            put(facts, SPEAKER, turn, stretch.speaker);
            put(facts, START, turn, stretch.start);
            put(facts, END, turn, stretch.end);
            put(facts, SIZE, turn, stretch.size);
            put(facts, FIRST, turn, first);
            put(facts, NEXT, turn, lastLookOf(stretch));
            put(facts, ASKS, turn, stretches.lastWordOf(stretch).isOf(ASKING_KINDS) ? 1 : 0);
            put(facts, QUESTION, turn, NONE);
            for (int coder = 0; coder < CODERS; coder++) {
                put(facts, CODE + coder, turn, at(channels.codes, coder, first));
            }
        }

        private int lastLookOf(Stretch stretch) {
            for (int place = stretch.size - 1; place >= 0; place--) {
                int look = stretches.wordOf(stretch, place).look;
                if (look != NONE) {
                    return look;
                }
            }
            return NONE;
        }

        private void readPassage(int turn) {
            int passage = passageOf(turn);
            put(facts, OFF, turn, offOf(turn, 1));
            put(facts, PASSAGE, turn, passage);
            put(facts, LASTING, turn, passage == OVERLAP ? lastingOf(turn) : 0);
        }

        /** How long an OVERLAP lasts. */
        private int lastingOf(int turn) {
            return Math.min(at(facts, END, turn), at(facts, END, turn - 1)) - at(facts, START, turn);
        }

        private int passageOf(int turn) {
            if (turn == 0) {
                return NONE;
            }
            if (isSameSpeaker(turn, 1)) {
                return PAUSE;
            }
            int off = offOf(turn, 1);
            if (off < 0) {
                return OVERLAP;
            }
            return off <= 1 ? LATCH : GAP;
        }

        /** The START less the END of the TURN so many numbers below; 0 without one. */
        private int offOf(int turn, int below) {
            return turn < below ? 0 : at(facts, START, turn) - at(facts, END, turn - below);
        }

        /** Whether both have one SPEAKER; false, if there is no TURN so many numbers below. */
        private boolean isSameSpeaker(int turn, int below) {
            return turn >= below && at(facts, SPEAKER, turn) == at(facts, SPEAKER, turn - below);
        }

        private void readConduct(int turn, Stretch stretch) {
            int way = turn == 0 ? NONE : wayBehind(turn - 1, stretch.speaker);
            boolean isInterrupting = at(facts, PASSAGE, turn) == OVERLAP
                    && !hasPointNear(stretches.turn(turn - 1), stretch.start);
            boolean isExcused = stretches.wordOf(stretch, 0).isOf(EXCUSING_KINDS)
                    && (isInterrupting || way == AGAINST);
            put(facts, WAY, turn, way);
            put(facts, INTERRUPTS, turn, isInterrupting ? 1 : 0);
            put(facts, EXCUSED, turn, isExcused ? 1 : 0);
        }

        private int wayBehind(int ahead, int speaker) {
            int next = at(facts, NEXT, ahead);
            if (next == speaker) {
                return CHOSEN;
            }
            if (at(facts, SPEAKER, ahead) == speaker) {
                return GOING_ON;
            }
            return next == NONE ? TAKEN : AGAINST;
        }

        int wayBehindLast(int speaker) {
            return count() == 0 ? NONE : wayBehind(count() - 1, speaker);
        }

        /** Looks at times with SHIFT: those of the WORDS are moved as those of their STRETCH are. */
        private boolean hasPointNear(Stretch stretch, int time) {
            int added = stretch.start - stretches.wordOf(stretch, 0).start;
            int size = stretch.size;
            for (int place = 0; place < size; place++) {
                Word word = stretches.wordOf(stretch, place);
                if (word.isOf(POINT_KINDS) && Math.abs(word.end + added - time) <= 3) {
                    return true;
                }
            }
            return false;
        }

        /** How many TURNS there are to which ofTurn answers so. */
        int countThat(int what, int answer) {
            int many = 0;
            int all = count();
            for (int turn = 0; turn < all; turn++) {
                many += at(facts, what, turn) == answer ? 1 : 0;
            }
            return many;
        }

        /** How many of the TURNS that have both CODES have these; NONE stands for any. */
        int codedTwice(int byFirst, int bySecond) {
            int many = 0;
            int all = count();
            for (int turn = 0; turn < all; turn++) {
                boolean isSo = isCode(at(facts, CODE, turn), byFirst) && isCode(at(facts, CODE + 1, turn), bySecond);
                many += isSo ? 1 : 0;
            }
            return many;
        }

        private static boolean isCode(int code, int due) {
            return due == NONE ? code != NONE : code == due;
        }

        /** From the one SPEAKER to the other: 0 how many TURNS, 1 the sum of OFF, 2 how many OVERLAPS. */
        int following(int one, int two, int what) {
            int sum = 0;
            int all = count();
            for (int turn = 1; turn < all; turn++) {
                if (at(facts, SPEAKER, turn - 1) == one && at(facts, SPEAKER, turn) == two) {
                    sum += shareOf(turn, what);
                }
            }
            return sum;
        }

        private int shareOf(int turn, int what) {
            if (what == 0) {
                return 1;
            }
            if (what == 1) {
                return at(facts, OFF, turn);
            }
            return at(facts, PASSAGE, turn) == OVERLAP ? 1 : 0;
        }

        /** How many TURNS follow that of another SPEAKER so many numbers below with -2 to 4 between them. */
        int smoothFrom(int below) {
            int many = 0;
            int all = count();
            for (int turn = below; turn < all; turn++) {
                int off = offOf(turn, below);
                many += !isSameSpeaker(turn, below) && off >= -2 && off <= 4 ? 1 : 0;
            }
            return many;
        }

        int otherRepairs(boolean isDone) {
            int many = 0;
            int all = count();
            for (int turn = 0; turn < all; turn++) {
                if (stretches.lastWordOf(stretches.turn(turn)).kind == WHAT && (!isDone || isMended(turn))) {
                    many++;
                }
            }
            return many;
        }

        private boolean isMended(int turn) {
            int trouble = troubleOf(turn);
            return trouble != NONE && turn + 1 < count()
                    && at(facts, SPEAKER, turn + 1) == at(facts, SPEAKER, trouble);
        }

        private int troubleOf(int turn) {
            for (int ahead = turn - 1; ahead >= 0; ahead--) {
                if (at(facts, SPEAKER, ahead) != at(facts, SPEAKER, turn)) {
                    return ahead;
                }
            }
            return NONE;
        }
    }

    /** Which TURN ANSWERS which: read anew behind the TURNS. */
    private static final class Pairs {
        final Turns turns;
        /** By what ofQuestion is asked and by TURN: the answer. */
        final int[][] facts = new int[QUESTION_ASKS][MOST_WORDS];
        final int[] heap = new int[MOST_WORDS];
        int waiting;

        Pairs(Turns turns) {
            this.turns = turns;
        }

        void match() {
            waiting = 0;
            int all = turns.count();
            for (int turn = 0; turn < all; turn++) {
                note(turn, NONE, NONE, 0);
                if (at(turns.facts, ASKS, turn) == 1) {
                    put(heap, waiting, turn);
                    waiting++;
                } else if (waiting > 0 && mayAnswer(turn, at(heap, waiting - 1))) {
                    waiting--;
                    pair(at(heap, waiting), turn);
                }
            }
        }

        private void note(int question, int answer, int delay, int inserts) {
            put(facts, ANSWER, question, answer);
            put(facts, DELAY, question, delay);
            put(facts, INSERTS, question, inserts);
        }

        private boolean mayAnswer(int turn, int question) {
            int speaker = at(turns.facts, SPEAKER, turn);
            int next = at(turns.facts, NEXT, question);
            return speaker != at(turns.facts, SPEAKER, question) && (next == NONE || next == speaker);
        }

        private void pair(int question, int turn) {
            int delay = at(turns.facts, START, turn) - at(turns.facts, END, question);
            if (delay <= LAST_DELAY) {
                note(question, turn, delay <= PLAIN_DELAY ? 0 : 1, askingBetween(question, turn));
                put(turns.facts, QUESTION, turn, question);
            }
        }

        private int askingBetween(int question, int answer) {
            int many = 0;
            for (int turn = question + 1; turn < answer; turn++) {
                many += at(turns.facts, ASKS, turn);
            }
            return many;
        }

        int unanswered() {
            int many = 0;
            int all = turns.count();
            for (int turn = 0; turn < all; turn++) {
                many += at(turns.facts, ASKS, turn) == 1 && at(facts, ANSWER, turn) == NONE ? 1 : 0;
            }
            return many;
        }

        /** Whether each ANSWER follows its question, by another SPEAKER, and ANSWERS it alone. */
        boolean areSound() {
            int all = turns.count();
            for (int question = 0; question < all; question++) {
                int answer = at(facts, ANSWER, question);
                if (answer != NONE && !isAnswerTo(question, answer)) {
                    return false;
                }
            }
            return true;
        }

        private boolean isAnswerTo(int question, int answer) {
            return answer > question && at(turns.facts, QUESTION, answer) == question
                    && at(turns.facts, SPEAKER, answer) != at(turns.facts, SPEAKER, question);
        }
    }
}
