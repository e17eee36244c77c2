import java.util.ArrayDeque;
import java.util.ArrayList;
import java.util.Comparator;
import java.util.Deque;
import java.util.List;

/** The document once more, written apart from Turnwright: all is worked out anew for each question. */
final class PlainTalk {
    private static final int NONE = -1;

    record Spoken(int number, int speaker, int start, int end, int kind, int look) {
    }

    /** Some WORDS of one SPEAKER in their order, with SHIFT in their times. */
    record Row(List<Spoken> words) {
        Spoken first() {
            return words.get(0);
        }

        Spoken last() {
            return words.get(words.size() - 1);
        }

        int speaker() {
            return first().speaker();
        }

        int start() {
            return first().start();
        }

        int end() {
            return last().end();
        }

        boolean has(int... kinds) {
            for (Spoken word : words) {
                if (isOneOf(word.kind(), kinds)) {
                    return true;
                }
            }
            return false;
        }

        int next() {
            int next = NONE;
            for (Spoken word : words) {
                next = word.look() == NONE ? next : word.look();
            }
            return next;
        }

        boolean asks() {
            return isOneOf(last().kind(), 5, 6);
        }
    }

    private final List<Spoken> told = new ArrayList<>();
    private final List<Integer> cites = new ArrayList<>();
    private final int[][] codes = new int[120][2];
    private final int[] shifts = new int[5];
    private final boolean[] gone = new boolean[5];
    private int rest = 10;
    private int refused = 0;
    /** What was worked out since something was told last; null behind each telling. */
    private List<Row> knownStretches;
    private List<Row> knownTurns;

    private static boolean isOneOf(int kind, int... kinds) {
        for (int one : kinds) {
            if (one == kind) {
                return true;
            }
        }
        return false;
    }

    // ---- what is told

    int word(int speaker, int start, int length, int kind, int look) {
        index(speaker >= 0 && speaker <= 4 && look >= -1 && look <= 4);
        argument(start >= 0 && start <= 20000 && length >= 1 && length <= 50 && kind >= 0 && kind <= 6
                && look != speaker);
        state(fits(speaker, start, length));
        forget();
        told.add(new Spoken(told.size(), speaker, start, start + length, kind, look));
        codes[told.size() - 1][0] = NONE;
        codes[told.size() - 1][1] = NONE;
        return told.size() - 1;
    }

    int rest(int due) {
        argument(due >= 1 && due <= 30);
        forget();
        int before = rest;
        rest = due;
        return before;
    }

    int shift(int speaker, int shift) {
        index(speaker >= 0 && speaker <= 4);
        argument(shift >= -100 && shift <= 100);
        forget();
        int before = shifts[speaker];
        shifts[speaker] = shift;
        return before;
    }

    int withdraw(int speaker) {
        index(speaker >= 0 && speaker <= 4);
        state(!gone[speaker]);
        forget();
        gone[speaker] = true;
        return (int) told.stream().filter(word -> word.speaker() == speaker).count();
    }

    int code(int coder, int turn, int code) {
        index(coder == 0 || coder == 1);
        Row row = turn(turn);
        argument(code >= 0 && code <= 4);
        int before = codes[row.first().number()][coder];
        codes[row.first().number()][coder] = code;
        return before;
    }

    int cite(int turn) {
        Row row = turn(turn);
        state(cites.size() < 20);
        cites.add(row.first().number());
        return cites.size() - 1;
    }

    int call() {
        return ++refused;
    }

    // ---- what is asked

    int ofWord(int number, int what) {
        index(number >= 0 && number < told.size());
        argument(what >= 0 && what <= 7);
        Spoken word = told.get(number);
        Row within = null;
        for (Row row : stretches()) {
            within = row.words().stream().anyMatch(one -> one.number() == number) ? row : within;
        }
        return switch (what) {
            case 0 -> word.speaker();
            case 1 -> word.start() + shifts[word.speaker()];
            case 2 -> word.end() + shifts[word.speaker()];
            case 3 -> word.kind();
            case 4 -> word.look();
            case 5 -> gone[word.speaker()] ? 0 : 1;
            case 6 -> turnWith(number);
            default -> within == null ? 0 : within.words().size();
        };
    }

    int ofTurn(int number, int what) {
        Row row = turn(number);
        argument(what >= 0 && what <= 15);
        List<Row> turns = turns();
        return switch (what) {
            case 0 -> row.speaker();
            case 1 -> row.start();
            case 2 -> row.end();
            case 3 -> row.words().size();
            case 4 -> row.first().number();
            case 5 -> row.next();
            case 6 -> row.asks() ? 1 : 0;
            case 7 -> number == 0 ? 0 : off(turns, number, 1);
            case 8 -> passage(turns, number);
            case 9 -> passage(turns, number) == 3
                    ? Math.min(row.end(), turns.get(number - 1).end()) - row.start() : 0;
            case 10 -> number == 0 ? NONE : way(turns.get(number - 1), row.speaker());
            case 11 -> interrupts(turns, number) ? 1 : 0;
            case 12 -> excused(turns, number) ? 1 : 0;
            case 13 -> indexOf(answers(turns), number);
            default -> codes[row.first().number()][what - 14];
        };
    }

    int ofQuestion(int number, int what) {
        Row row = turn(number);
        argument(what >= 0 && what <= 2);
        List<Row> turns = turns();
        int answer = answers(turns)[number];
        if (answer == NONE) {
            return what == 2 ? 0 : NONE;
        }
        return switch (what) {
            case 0 -> answer;
            case 1 -> turns.get(answer).start() - row.end() > 7 ? 1 : 0;
            default -> (int) turns.subList(number + 1, answer).stream().filter(Row::asks).count();
        };
    }

    int talk(int what) {
        argument(what >= 0 && what <= 21);
        List<Row> stretches = stretches();
        List<Row> turns = turns();
        int many = 0;
        switch (what) {
            case 0: return told.size();
            case 1: return (int) told.stream().filter(word -> !gone[word.speaker()]).count();
            case 2: return stretches.size();
            case 3: return turns.size();
            case 4: return (int) stretches.stream().filter(row -> isSign(row, stretches)).count();
            case 5: return (int) stretches.stream().filter(row -> isAir(row, stretches)).count();
            case 14:
                for (int number = 0; number < turns.size(); number++) {
                    many += turns.get(number).asks() && answers(turns)[number] == NONE ? 1 : 0;
                }
                return many;
            case 15: return selfRepairs(stretches, false);
            case 16: return selfRepairs(stretches, true);
            case 17: return otherRepairs(turns, false);
            case 18: return otherRepairs(turns, true);
            case 19: return cites.size();
            case 20: return rest;
            case 21: return refused;
            default: break;
        }
        for (int number = 0; number < turns.size(); number++) {
            boolean is = switch (what) {
                case 10 -> interrupts(turns, number);
                case 11 -> excused(turns, number);
                case 12 -> number > 0 && way(turns.get(number - 1), turns.get(number).speaker()) == 3;
                case 13 -> turns.get(number).asks();
                default -> passage(turns, number) == what - 6;
            };
            many += is ? 1 : 0;
        }
        return many;
    }

    int between(int one, int two, int what) {
        index(one >= 0 && one <= 4 && two >= 0 && two <= 4);
        argument(one != two && what >= 0 && what <= 2);
        List<Row> turns = turns();
        int sum = 0;
        for (int number = 1; number < turns.size(); number++) {
            if (turns.get(number).speaker() == two && turns.get(number - 1).speaker() == one) {
                int off = off(turns, number, 1);
                sum += what == 0 ? 1 : what == 1 ? off : off < 0 ? 1 : 0;
            }
        }
        return sum;
    }

    double mean(int one, int two) {
        int many = between(one, two, 0);
        return many == 0 ? 0.0 : between(one, two, 1) / (double) many;
    }

    int said(int speaker) {
        index(speaker >= 0 && speaker <= 4);
        return told.stream().filter(word -> word.speaker() == speaker && !gone[speaker])
                .filter(word -> !isOneOf(word.kind(), 3, 4)).mapToInt(word -> word.end() - word.start()).sum();
    }

    double floor(int speaker) {
        double part = said(speaker);
        int all = said(0) + said(1) + said(2) + said(3) + said(4);
        return all == 0 ? 0.0 : part / all;
    }

    int test(boolean isShuffled) {
        List<Row> turns = turns();
        int below = isShuffled ? 2 : 1;
        int many = 0;
        for (int number = below; number < turns.size(); number++) {
            boolean isOther = turns.get(number).speaker() != turns.get(number - below).speaker();
            int off = off(turns, number, below);
            many += isOther && off >= -2 && off <= 4 ? 1 : 0;
        }
        return many;
    }

    double agreement() {
        long many = 0;
        long same = 0;
        long[][] by = new long[2][5];
        for (Row row : turns()) {
            int[] both = codes[row.first().number()];
            if (both[0] != NONE && both[1] != NONE) {
                many++;
                same += both[0] == both[1] ? 1 : 0;
                by[0][both[0]]++;
                by[1][both[1]]++;
            }
        }
        long chance = 0;
        for (int code = 0; code < 5; code++) {
            chance += by[0][code] * by[1][code];
        }
        return many * many == chance ? 1.0 : (many * same - chance) / (double) (many * many - chance);
    }

    int cited(int cite) {
        index(cite >= 0 && cite < cites.size());
        return turnWith(cites.get(cite));
    }

    String row(int number) {
        Row row = turn(number);
        String text = number + " " + "ABCDE".substring(row.speaker(), row.speaker() + 1) + ": ";
        int end = row.start();
        for (Spoken word : row.words()) {
            text += "_".repeat(Math.min(3, word.start() - end)) + "o.-hx?!".charAt(word.kind());
            end = word.end();
        }
        List<Row> turns = turns();
        int passage = number + 1 == turns.size() ? NONE : passage(turns, number + 1);
        return text + (passage == 3 ? "]" : passage == 1 ? "=" : "");
    }

    // ---- what would be

    boolean fits(int speaker, int start, int length) {
        index(speaker >= 0 && speaker <= 4);
        if (start < 0 || start > 20000 || length < 1 || length > 50 || told.size() == 120 || gone[speaker]) {
            return false;
        }
        for (Spoken word : told) {
            for (int time = start; time < start + length; time++) {
                if (word.speaker() == speaker && time >= word.start() && time < word.end()) {
                    return false;
                }
            }
        }
        return true;
    }

    int wouldCome(int speaker) {
        index(speaker >= 0 && speaker <= 4);
        List<Row> turns = turns();
        return turns.isEmpty() ? NONE : way(turns.get(turns.size() - 1), speaker);
    }

    int bestRest(boolean isMany) {
        int most = 0;
        int best = 1;
        for (int tried = 30; tried >= 1; tried--) {
            int many = turns(tried, shifts).size();
            if (many >= most) {
                most = many;
                best = tried;
            }
        }
        return isMany ? most : best;
    }

    int bestShift(int speaker) {
        index(speaker >= 0 && speaker <= 4);
        long least = Long.MAX_VALUE;
        int best = 0;
        for (int tried = -20; tried <= 20 && !gone[speaker]; tried++) {
            int[] with = shifts.clone();
            with[speaker] = tried;
            List<Row> turns = turns(rest, with);
            long sum = 0;
            for (int number = 1; number < turns.size(); number++) {
                boolean isOther = turns.get(number).speaker() != turns.get(number - 1).speaker();
                sum += isOther ? Math.abs(off(turns, number, 1)) : 0;
            }
            if (sum < least || sum == least && Math.abs(tried) < Math.abs(best)) {
                least = sum;
                best = tried;
            }
        }
        return best;
    }

    boolean isSound() {
        return true;
    }

    long digest() {
        List<Long> all = new ArrayList<>();
        for (int what = 0; what <= 21; what++) {
            all.add((long) talk(what));
        }
        for (int word = 0; word < told.size(); word++) {
            for (int what : new int[] {1, 5, 6, 7}) {
                all.add((long) ofWord(word, what));
            }
        }
        int turnCount = turns().size();
        for (int turn = 0; turn < turnCount; turn++) {
            for (int what = 0; what <= 15; what++) {
                all.add((long) ofTurn(turn, what));
            }
            for (int what = 0; what <= 2; what++) {
                all.add((long) ofQuestion(turn, what));
            }
        }
        for (int one = 0; one <= 4; one++) {
            all.add((long) said(one));
            all.add((long) wouldCome(one));
            all.add((long) bestShift(one));
            for (int two = 0; two <= 4; two++) {
                if (one != two) {
                    all.add((long) between(one, two, 0));
                    all.add((long) between(one, two, 1));
                    all.add((long) between(one, two, 2));
                }
            }
        }
        all.add((long) test(false));
        all.add((long) test(true));
        for (int cite = 0; cite < cites.size(); cite++) {
            all.add((long) cited(cite));
        }
        all.add((long) bestRest(false));
        all.add((long) bestRest(true));
        all.add((long) (64 * agreement()));
        all.add(isSound() ? 1L : 0L);
        long d = 4111;
        for (long v : all) {
            d = d * 31 + v;
        }
        return d;
    }

    // ---- the terms

    private static void index(boolean holds) {
        if (!holds) {
            throw new IndexOutOfBoundsException();
        }
    }

    private static void argument(boolean holds) {
        if (!holds) {
            throw new IllegalArgumentException();
        }
    }

    private static void state(boolean holds) {
        if (!holds) {
            throw new IllegalStateException();
        }
    }

    private Row turn(int number) {
        List<Row> turns = turns();
        index(number >= 0 && number < turns.size());
        return turns.get(number);
    }

    private void forget() {
        knownStretches = null;
        knownTurns = null;
    }

    private List<Row> stretches() {
        knownStretches = knownStretches == null ? stretches(rest, shifts) : knownStretches;
        return knownStretches;
    }

    private List<Row> turns() {
        knownTurns = knownTurns == null ? turns(rest, shifts) : knownTurns;
        return knownTurns;
    }

    private List<Row> turns(int byRest, int[] byShifts) {
        List<Row> stretches = stretches(byRest, byShifts);
        List<Row> turns = new ArrayList<>();
        for (Row row : stretches) {
            if (!isSign(row, stretches) && !isAir(row, stretches)) {
                turns.add(row);
            }
        }
        turns.sort(Comparator.comparingInt(Row::start).thenComparingInt(Row::speaker));
        return turns;
    }

    private List<Row> stretches(int byRest, int[] byShifts) {
        List<Row> rows = new ArrayList<>();
        List<Spoken> sorted = new ArrayList<>(told);
        sorted.sort(Comparator.comparingInt(Spoken::speaker).thenComparingInt(Spoken::start));
        for (Spoken word : sorted) {
            if (gone[word.speaker()]) {
                continue;
            }
            int shift = byShifts[word.speaker()];
            Spoken moved = new Spoken(word.number(), word.speaker(), word.start() + shift, word.end() + shift,
                    word.kind(), word.look());
            Row open = rows.isEmpty() ? null : rows.get(rows.size() - 1);
            if (open == null || open.speaker() != word.speaker() || moved.start() > open.end() + byRest) {
                open = new Row(new ArrayList<>());
                rows.add(open);
            }
            open.words().add(moved);
        }
        return rows;
    }

    private static boolean isSign(Row row, List<Row> stretches) {
        if (row.words().size() > 2 || row.has(5, 6)) {
            return false;
        }
        return stretches.stream().anyMatch(other -> other.words().size() > 2 && other.speaker() != row.speaker()
                && other.start() <= row.start() && row.end() <= other.end());
    }

    private static boolean isAir(Row row, List<Row> stretches) {
        return !row.has(0, 1, 2, 5, 6) && !isSign(row, stretches);
    }

    private int turnWith(int word) {
        List<Row> turns = turns();
        for (int number = 0; number < turns.size(); number++) {
            for (Spoken one : turns.get(number).words()) {
                if (one.number() == word) {
                    return number;
                }
            }
        }
        return NONE;
    }

    private static int off(List<Row> turns, int number, int below) {
        return turns.get(number).start() - turns.get(number - below).end();
    }

    private static int passage(List<Row> turns, int number) {
        if (number == 0) {
            return NONE;
        }
        int off = off(turns, number, 1);
        boolean isSame = turns.get(number).speaker() == turns.get(number - 1).speaker();
        return isSame ? 0 : off < 0 ? 3 : off < 2 ? 1 : 2;
    }

    private static int way(Row ahead, int speaker) {
        return ahead.next() == speaker ? 0 : ahead.speaker() == speaker ? 1 : ahead.next() == NONE ? 2 : 3;
    }

    private static boolean interrupts(List<Row> turns, int number) {
        if (passage(turns, number) != 3) {
            return false;
        }
        int start = turns.get(number).start();
        return turns.get(number - 1).words().stream().noneMatch(word -> isOneOf(word.kind(), 1, 5, 6)
                && word.end() >= start - 3 && word.end() <= start + 3);
    }

    private static boolean excused(List<Row> turns, int number) {
        Row row = turns.get(number);
        boolean isAgainst = number > 0 && way(turns.get(number - 1), row.speaker()) == 3;
        return isOneOf(row.first().kind(), 3, 6) && (interrupts(turns, number) || isAgainst);
    }

    /** By TURN that ASKS the TURN that ANSWERS it. */
    private static int[] answers(List<Row> turns) {
        int[] answers = new int[turns.size()];
        Deque<Integer> heap = new ArrayDeque<>();
        for (int number = 0; number < turns.size(); number++) {
            answers[number] = NONE;
            Row row = turns.get(number);
            if (!heap.isEmpty() && !row.asks()) {
                Row top = turns.get(heap.peek());
                if (top.speaker() != row.speaker() && (top.next() == NONE || top.next() == row.speaker())) {
                    int question = heap.pop();
                    answers[question] = row.start() - top.end() > 50 ? NONE : number;
                }
            }
            if (row.asks()) {
                heap.push(number);
            }
        }
        return answers;
    }

    private static int indexOf(int[] numbers, int due) {
        for (int index = 0; index < numbers.length; index++) {
            if (numbers[index] == due) {
                return index;
            }
        }
        return NONE;
    }

    private static int selfRepairs(List<Row> stretches, boolean isDone) {
        int many = 0;
        for (Row row : stretches) {
            for (int place = 0; place + 1 < row.words().size(); place++) {
                Row behind = new Row(row.words().subList(place + 1, row.words().size()));
                many += row.words().get(place).kind() == 2 && (!isDone || behind.has(0, 1, 5)) ? 1 : 0;
            }
        }
        return many;
    }

    private static int otherRepairs(List<Row> turns, boolean isDone) {
        int many = 0;
        for (int number = 0; number < turns.size(); number++) {
            Row row = turns.get(number);
            if (row.last().kind() != 6) {
                continue;
            }
            int trouble = NONE;
            for (int ahead = 0; ahead < number; ahead++) {
                trouble = turns.get(ahead).speaker() != row.speaker() ? ahead : trouble;
            }
            boolean isMended = trouble != NONE && number + 1 < turns.size()
                    && turns.get(number + 1).speaker() == turns.get(trouble).speaker();
            many += !isDone || isMended ? 1 : 0;
        }
        return many;
    }
}
