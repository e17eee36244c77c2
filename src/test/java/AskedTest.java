/** Promises 9 to 20: what is asked. */
public final class AskedTest {
    private static final Class<IndexOutOfBoundsException> INDEX = IndexOutOfBoundsException.class;
    private static final Class<IllegalArgumentException> ARGUMENT = IllegalArgumentException.class;

    private AskedTest() {
    }

    public static void main(String[] args) {
        promise9();
        signs();
        air();
        promise10Order();
        promise10Passages();
        promise10Ways();
        promise10Interrupts();
        promise10Excused();
        promise10Questions();
        promise11Times();
        promise11Heap();
        promise11WhoAnswers();
        promise11Late();
        fullOfTurns();
        promise12();
        promise12Self();
        promise12Other();
        promise13And14();
        promise15And16();
        promise17();
        promise18();
        promise19();
        promise20();
        Check.end("AskedTest");
    }

    /** A talk of words, each of speaker, start, length, kind and look. */
    private static Talk of(int[]... words) {
        return ofRest(10, words);
    }

    private static Talk ofRest(int rest, int[]... words) {
        Talk x = new Talk();
        x.rest(rest);
        for (int[] word : words) {
            x.word(word[0], word[1], word[2], word[3], word[4]);
        }
        return x;
    }

    private static int[] w(int speaker, int start, int length, int kind, int look) {
        return new int[] {speaker, start, length, kind, look};
    }

    private static void dueWord(Talk x, int word, int... due) {
        for (int what = 0; what <= 7; what++) {
            Check.due("ofWord(" + word + ", " + what + ")", x.ofWord(word, what), due[what]);
        }
    }

    /** What ofTurn answers from one number on. */
    private static void dueTurn(String name, Talk x, int turn, int from, int... due) {
        for (int index = 0; index < due.length; index++) {
            Check.due(name + ": ofTurn(" + turn + ", " + (from + index) + ")", x.ofTurn(turn, from + index), due[index]);
        }
    }

    private static void dueQuestion(String name, Talk x, int turn, int answer, int delay, int inserts) {
        Check.due(name + ": answer of " + turn, x.ofQuestion(turn, 0), answer);
        Check.due(name + ": delay of " + turn, x.ofQuestion(turn, 1), delay);
        Check.due(name + ": inserts of " + turn, x.ofQuestion(turn, 2), inserts);
    }

    private static void promise9() {
        Talk x = of(w(0, 12, 3, 2, 2), w(0, 0, 5, 0, 1), w(0, 6, 4, 1, -1), w(1, 4, 3, 0, 4),
                w(2, 30, 2, 4, -1), w(3, 40, 6, 6, 0));
        dueWord(x, 0, 0, 12, 15, 2, 2, 1, 0, 3);
        dueWord(x, 1, 0, 0, 5, 0, 1, 1, 0, 3);
        dueWord(x, 2, 0, 6, 10, 1, -1, 1, 0, 3);
        dueWord(x, 3, 1, 4, 7, 0, 4, 1, -1, 1);
        dueWord(x, 4, 2, 30, 32, 4, -1, 1, -1, 1);
        dueWord(x, 5, 3, 40, 46, 6, 0, 1, 1, 1);
        x.shift(3, -45);
        dueWord(x, 5, 3, -5, 1, 6, 0, 1, 0, 1);
        dueWord(x, 0, 0, 12, 15, 2, 2, 1, 1, 3);
        x.withdraw(0);
        dueWord(x, 0, 0, 12, 15, 2, 2, 0, -1, 0);
        dueWord(x, 3, 1, 4, 7, 0, 4, 1, 1, 1);
        Check.refuses("word 6", x, INDEX, () -> x.ofWord(6, 0));
        Check.refuses("word -1", x, INDEX, () -> x.ofWord(-1, 0));
        Check.refuses("what 8", x, ARGUMENT, () -> x.ofWord(0, 8));
        Check.refuses("what -1", x, ARGUMENT, () -> x.ofWord(0, -1));
        Check.refuses("word and what: the index first", x, INDEX, () -> x.ofWord(6, 8));
    }

    /** A talks from 100 to 130 in three words; the one STRETCH of B is a SIGN or a TURN. */
    private static void dueSign(String name, boolean isSign, int[]... words) {
        Talk x = of(w(0, 100, 10, 0, -1), w(0, 110, 10, 0, -1), w(0, 120, 10, 0, -1));
        for (int[] word : words) {
            x.word(word[0], word[1], word[2], word[3], word[4]);
        }
        Check.due(name + ": signs", x.talk(4), isSign ? 1 : 0);
        Check.due(name + ": turns", x.talk(3), isSign ? 1 : 2);
        Check.due(name + ": air", x.talk(5), 0);
        Check.due(name + ": stretches", x.talk(2), 2);
        Check.due(name + ": turn of the word", x.ofWord(3, 6) == -1, isSign);
    }

    private static void signs() {
        dueSign("within", true, w(1, 110, 3, 0, -1));
        dueSign("just within", true, w(1, 100, 30, 1, -1));
        dueSign("two words", true, w(1, 100, 3, 2, -1), w(1, 105, 25, 0, -1));
        dueSign("a laugh", true, w(1, 110, 3, 3, -1));
        dueSign("a breath", true, w(1, 110, 3, 4, -1));
        dueSign("starts ahead", false, w(1, 99, 10, 0, -1));
        dueSign("ends behind", false, w(1, 121, 10, 0, -1));
        dueSign("three words", false, w(1, 101, 2, 0, -1), w(1, 104, 2, 0, -1), w(1, 107, 2, 0, -1));
        dueSign("a question", false, w(1, 110, 3, 5, -1));
        dueSign("a what", false, w(1, 110, 3, 6, -1));
        dueSign("a question ahead", false, w(1, 110, 3, 5, -1), w(1, 114, 3, 0, -1));
        dueSign("a what behind", false, w(1, 110, 3, 0, -1), w(1, 114, 3, 6, -1));

        Talk two = of(w(0, 100, 10, 0, -1), w(0, 110, 20, 0, -1), w(1, 110, 3, 0, -1));
        Check.due("two words hear no sign", two.talk(4), 0);
        Check.due("two words hear a turn", two.talk(3), 2);
        Talk laughs = of(w(0, 100, 10, 3, -1), w(0, 110, 10, 4, -1), w(0, 120, 10, 3, -1), w(1, 110, 3, 0, -1));
        Check.due("laughs hear a sign", laughs.talk(4), 1);
        Check.due("laughs are air", laughs.talk(5), 1);
        Check.due("neither is a turn", laughs.talk(3), 0);

        Talk x = of(w(0, 100, 10, 0, -1), w(0, 110, 10, 0, -1), w(0, 120, 10, 0, -1), w(1, 110, 3, 0, -1));
        int[] shifts = {-11, -10, 17, 18};
        int[] due = {0, 1, 1, 0};
        for (int index = 0; index < 4; index++) {
            x.shift(1, shifts[index]);
            Check.due("signs by shift " + shifts[index], x.talk(4), due[index]);
        }
        x.shift(0, 5);
        Check.due("signs by the shift of the other one", x.talk(4), 1);
        x.withdraw(0);
        Check.due("signs without the other one", x.talk(4), 0);
    }

    private static void air() {
        int[][] kinds = {{3}, {4}, {4, 3}, {3, 3, 4, 4}, {0}, {1}, {2}, {5}, {6}, {3, 0}, {2, 4}, {3, 1, 3}, {4, 6}, {3, 5}};
        for (int index = 0; index < kinds.length; index++) {
            Talk x = new Talk();
            for (int word = 0; word < kinds[index].length; word++) {
                x.word(2, word * 5, 3, kinds[index][word], -1);
            }
            boolean isAir = index < 4;
            Check.due("air of kinds " + index, x.talk(5), isAir ? 1 : 0);
            Check.due("turns of kinds " + index, x.talk(3), isAir ? 0 : 1);
            Check.due("signs of kinds " + index, x.talk(4), 0);
        }
    }

    private static void promise10Order() {
        Talk x = of(w(1, 10, 5, 0, -1), w(0, 10, 8, 0, -1), w(2, 3, 2, 0, -1), w(2, 5, 1, 0, -1), w(2, 0, 2, 0, -1));
        dueTurn("order", x, 0, 0, 2, 0, 6, 3, 4, -1, 0, 0, -1, 0, -1, 0, 0, -1, -1, -1);
        dueTurn("order", x, 1, 0, 0, 10, 18, 1, 1, -1, 0, 4, 2, 0, 2, 0, 0, -1, -1, -1);
        dueTurn("order", x, 2, 0, 1, 10, 15, 1, 0, -1, 0, -8, 3, 5, 2, 1, 0, -1, -1, -1);
        x.shift(0, 1);
        dueTurn("shifted", x, 1, 0, 1, 10, 15, 1, 0, -1, 0, 4, 2, 0, 2, 0, 0, -1, -1, -1);
        dueTurn("shifted", x, 2, 0, 0, 11, 19, 1, 1, -1, 0, -4, 3, 4, 2, 1, 0, -1, -1, -1);
        Check.refuses("turn 3", x, INDEX, () -> x.ofTurn(3, 0));
        Check.refuses("turn -1", x, INDEX, () -> x.ofTurn(-1, 0));
        Check.refuses("what 16", x, ARGUMENT, () -> x.ofTurn(0, 16));
        Check.refuses("what -1", x, ARGUMENT, () -> x.ofTurn(0, -1));
        Check.refuses("turn and what: the index first", x, INDEX, () -> x.ofTurn(3, 16));
    }

    private static void promise10Passages() {
        int[][] due = { // START and length of B; OFF, passage, how long
            {109, 5, -1, 3, 1}, {110, 5, 0, 1, 0}, {111, 5, 1, 1, 0}, {112, 5, 2, 2, 0}, {102, 5, -8, 3, 5},
            {104, 6, -6, 3, 6}, {104, 7, -6, 3, 6}, {104, 5, -6, 3, 5}, {900, 5, 790, 2, 0},
        };
        for (int[] row : due) {
            Talk x = of(w(0, 100, 10, 0, -1), w(1, row[0], row[1], 0, -1));
            dueTurn("passage at " + row[0], x, 1, 7, row[2], row[3], row[4]);
            dueTurn("passage of the first", x, 0, 7, 0, -1, 0);
        }
        Talk pause = of(w(0, 100, 10, 0, -1), w(0, 121, 5, 0, -1));
        dueTurn("pause", pause, 1, 7, 11, 0, 0);
        Talk short1 = ofRest(1, w(0, 100, 10, 0, -1), w(0, 112, 5, 0, -1));
        dueTurn("short pause", short1, 1, 7, 2, 0, 0);
        Talk air = of(w(0, 0, 5, 0, -1), w(1, 7, 1, 3, -1), w(0, 30, 5, 0, -1));
        dueTurn("pause with a laugh in it", air, 1, 7, 25, 0, 0);
        Talk third = of(w(0, 0, 50, 0, -1), w(1, 10, 5, 0, -1), w(2, 20, 5, 0, -1));
        dueTurn("off of the one ahead, though another goes on", third, 2, 7, 5, 2, 0);
    }

    private static void promise10Ways() {
        dueWay("chosen", 0, -1, 1, 1);
        dueWay("against", 3, -1, 1, 2);
        dueWay("taken", 2, -1, -1, 1);
        dueWay("going on", 1, -1, -1, 0);
        dueWay("going on, though another is chosen", 1, -1, 1, 0);
        dueWay("the last look counts: chosen", 0, 1, 2, 2);
        dueWay("the last look counts: against", 3, 1, 2, 1);
        dueWay("an earlier look stands", 0, 3, -1, 3);
        dueWay("an earlier look stands: against", 3, 3, -1, 4);
        Talk x = of(w(0, 0, 5, 0, 1), w(2, 20, 5, 0, -1));
        x.withdraw(1);
        dueTurn("one who is withdrawn is chosen", x, 1, 10, 3);
    }

    /** A says two words with these looks; then one speaks. */
    private static void dueWay(String name, int due, int look, int lastLook, int speaker) {
        Talk x = of(w(0, 0, 5, 0, look), w(0, 6, 5, 0, lastLook), w(speaker, 40, 5, 0, -1));
        Check.due(name + ": next", x.ofTurn(0, 5), lastLook == -1 ? look : lastLook);
        Check.due(name + ": the first", x.ofTurn(0, 10), -1);
        Check.due(name + ": how it came", x.ofTurn(1, 10), due);
        Check.due(name + ": against it", x.talk(12), due == 3 ? 1 : 0);
    }

    private static void promise10Interrupts() {
        int[] starts = {106, 107, 110, 113, 114};
        for (int kind = 0; kind <= 6; kind++) {
            boolean isPoint = kind == 1 || kind == 5 || kind == 6;
            for (int index = 0; index < 5; index++) {
                boolean isNear = isPoint && index >= 1 && index <= 3;
                Talk x = of(w(0, 100, 10, kind, -1), w(0, 111, 19, 0, -1), w(1, starts[index], 40, 0, -1));
                dueInterrupts(x, "kind " + kind + " start " + starts[index], 1, isNear ? 0 : 1);
                dueInterrupts(x, "the first turn", 0, 0);
            }
        }
        dueInterrupts(of(w(0, 100, 10, 0, -1), w(0, 111, 19, 1, -1), w(1, 127, 40, 0, -1)), "the last word is near", 1, 0);
        dueInterrupts(of(w(0, 100, 10, 0, -1), w(0, 111, 19, 1, -1), w(1, 126, 40, 0, -1)), "the last word is far", 1, 1);
        dueInterrupts(of(w(0, 100, 10, 0, -1), w(0, 111, 19, 0, -1), w(1, 130, 40, 0, -1)), "a latch", 1, 0);
        dueInterrupts(of(w(0, 100, 10, 0, -1), w(0, 130, 19, 0, -1)), "a pause", 1, 0);
        dueInterrupts(of(w(0, 100, 40, 0, -1), w(2, 101, 7, 1, -1), w(1, 105, 40, 0, -1)), "a point ahead", 2, 0);
        dueInterrupts(of(w(0, 100, 10, 1, -1), w(2, 101, 39, 0, -1), w(1, 110, 40, 0, -1)), "a point two ahead", 2, 1);
    }

    private static void dueInterrupts(Talk x, String name, int turn, int due) {
        for (int shift = -100; shift <= 100; shift += 50) {
            for (int speaker = 0; speaker <= 4; speaker++) {
                x.shift(speaker, shift);
            }
            Check.due(name + ": interrupts", x.ofTurn(turn, 11), due);
        }
    }

    private static void promise10Excused() {
        for (int kind = 0; kind <= 6; kind++) {
            int due = kind == 3 || kind == 6 ? 1 : 0;
            dueExcused("interrupts", kind, 115, -1, due);
            dueExcused("interrupts, chosen", kind, 115, 1, due);
            dueExcused("interrupts against it", kind, 115, 2, due);
            dueExcused("against it", kind, 140, 2, due);
            dueExcused("taken", kind, 140, -1, 0);
            dueExcused("chosen", kind, 140, 1, 0);
        }
        Talk x = of(w(0, 100, 30, 0, 2), w(1, 115, 2, 0, -1), w(1, 118, 2, 3, -1), w(1, 121, 40, 6, -1));
        Check.due("a laugh behind the first word", x.ofTurn(1, 12), 0);
    }

    private static void dueExcused(String name, int kind, int start, int look, int due) {
        Talk x = of(w(0, 100, 10, 0, look), w(0, 111, 19, 0, -1), w(1, start, 2, kind, -1), w(1, start + 3, 40, 0, -1));
        Check.due(name + " by kind " + kind, x.ofTurn(1, 12), due);
        Check.due(name + " by kind " + kind + ": of the first", x.ofTurn(0, 12), 0);
        Check.due(name + " by kind " + kind + ": how many", x.talk(11), due);
    }

    private static void promise10Questions() {
        for (int kind = 0; kind <= 6; kind++) {
            Talk last = of(w(0, 0, 5, 0, -1), w(0, 6, 5, kind, -1));
            Check.due("asks with last kind " + kind, last.ofTurn(0, 6), kind >= 5 ? 1 : 0);
            Talk first = of(w(0, 0, 5, kind, -1), w(0, 6, 5, 0, -1));
            Check.due("asks with first kind " + kind, first.ofTurn(0, 6), 0);
        }
    }

    private static void promise11Times() {
        int[][] due = {{5, 1, 0}, {10, 1, 0}, {17, 1, 0}, {18, 1, 1}, {60, 1, 1}, {61, -1, -1}};
        for (int[] row : due) {
            Talk x = of(w(0, 0, 10, 5, -1), w(1, row[0], 6, 0, -1));
            dueQuestion("answer at " + row[0], x, 0, row[1], row[2], 0);
            dueQuestion("no question", x, 1, -1, -1, 0);
            Check.due("answers at " + row[0], x.ofTurn(1, 13), row[1] == -1 ? -1 : 0);
            Check.due("a question answers none", x.ofTurn(0, 13), -1);
            Check.due("unanswered at " + row[0], x.talk(14), row[1] == -1 ? 1 : 0);
        }
        Talk x = of(w(0, 0, 10, 6, -1), w(1, 12, 6, 0, -1));
        dueQuestion("of kind 6", x, 0, 1, 0, 0);
        Check.refuses("turn 2", x, INDEX, () -> x.ofQuestion(2, 0));
        Check.refuses("turn -1", x, INDEX, () -> x.ofQuestion(-1, 0));
        Check.refuses("what 3", x, ARGUMENT, () -> x.ofQuestion(0, 3));
        Check.refuses("what -1", x, ARGUMENT, () -> x.ofQuestion(0, -1));
        Check.refuses("turn and what: the index first", x, INDEX, () -> x.ofQuestion(2, 3));
    }

    private static void promise11Heap() {
        Talk x = ofRest(1, w(0, 0, 10, 5, -1), w(1, 12, 3, 5, -1), w(0, 17, 3, 0, -1), w(1, 22, 3, 0, -1));
        dueQuestion("upon a question", x, 0, 3, 1, 1);
        dueQuestion("upon a question", x, 1, 2, 0, 0);
        Check.due("it answers the later one", x.ofTurn(2, 13), 1);
        Check.due("it answers the earlier one", x.ofTurn(3, 13), 0);
        Check.due("asks", x.talk(13), 2);
        Check.due("unanswered", x.talk(14), 0);

        Talk three = ofRest(1, w(0, 0, 5, 5, -1), w(1, 6, 5, 6, -1), w(2, 12, 5, 5, -1), w(3, 18, 5, 0, -1),
                w(4, 24, 5, 0, -1), w(3, 30, 5, 0, -1), w(4, 40, 5, 0, -1));
        dueQuestion("three deep", three, 0, 5, 1, 2);
        dueQuestion("three deep", three, 1, 4, 1, 1);
        dueQuestion("three deep", three, 2, 3, 0, 0);
        Check.due("nothing left to answer", three.ofTurn(6, 13), -1);

        Talk asking = ofRest(1, w(0, 0, 5, 5, 1), w(1, 6, 5, 5, 0), w(1, 20, 5, 0, -1), w(0, 30, 5, 0, -1));
        dueQuestion("a question is no answer", asking, 0, -1, -1, 0);
        dueQuestion("nobody answers oneself", asking, 1, 3, 1, 0);
        Check.due("unanswered one", asking.talk(14), 1);
    }

    private static void promise11WhoAnswers() {
        Talk x = ofRest(1, w(0, 0, 10, 5, 2), w(1, 12, 3, 0, -1), w(2, 17, 3, 0, -1));
        dueQuestion("the one who was asked", x, 0, 2, 0, 0);
        Check.due("the one who was not asked", x.ofTurn(1, 13), -1);

        Talk own = ofRest(1, w(0, 0, 10, 5, -1), w(0, 12, 3, 0, -1), w(3, 18, 3, 0, -1));
        dueQuestion("oneself does not answer", own, 0, 2, 1, 0);

        Talk top = ofRest(1, w(0, 0, 5, 5, -1), w(1, 6, 5, 5, 2), w(3, 12, 5, 0, -1), w(2, 18, 5, 0, -1),
                w(3, 24, 5, 0, -1));
        Check.due("no other one is looked at", top.ofTurn(2, 13), -1);
        dueQuestion("the top one", top, 1, 3, 0, 0);
        dueQuestion("the one below", top, 0, 4, 1, 1);
    }

    private static void promise11Late() {
        Talk x = of(w(0, 0, 10, 5, -1), w(1, 61, 5, 0, -1), w(2, 63, 5, 0, -1));
        dueQuestion("too late", x, 0, -1, -1, 0);
        Check.due("too late", x.ofTurn(1, 13), -1);
        Check.due("taken off all the same", x.ofTurn(2, 13), -1);

        Talk below = of(w(0, 0, 50, 5, -1), w(1, 5, 5, 5, -1), w(2, 61, 5, 0, -1), w(3, 70, 5, 0, -1));
        dueQuestion("late on top", below, 1, -1, -1, 0);
        Check.due("late on top: nothing else is looked at", below.ofTurn(2, 13), -1);
        dueQuestion("in time below", below, 0, 3, 1, 1);
        below.withdraw(3);
        dueQuestion("its answer is withdrawn", below, 0, -1, -1, 0);
        Check.due("unanswered ones", below.talk(14), 2);
    }

    /** As many TURNS as can be: A asks and B answers, 12 by 12, sixty times. */
    private static void fullOfTurns() {
        Talk x = new Talk();
        for (int word = 0; word < 120; word++) {
            x.word(word % 2, word * 12, 10, word % 2 == 0 ? 5 : 2, 1 - word % 2);
        }
        dueTalk("full", x, 120, 120, 120, 120, 0, 0, 0, 0, 119, 0, 0, 0, 0, 60, 0, 0, 0, 0, 0, 0, 10, 0);
        dueTurn("full", x, 119, 0, 1, 1428, 1438, 1, 119, 0, 0, 2, 2, 0, 0, 0, 0, 118, -1, -1);
        dueQuestion("full", x, 118, 119, 0, 0);
        dueBetween(x, 0, 1, 60, 120, 0, 2.0);
        dueBetween(x, 1, 0, 59, 118, 0, 2.0);
        Check.due("full: test", x.test(false), 119);
        Check.due("full: shuffled", x.test(true), 0);
        Check.due("full: row", x.row(119), "119 B: -");
        Check.due("full: talk of A", x.said(0), 600);
        Check.due("full: chosen next", x.wouldCome(0), 0);
        Check.due("full: going on next", x.wouldCome(1), 1);
        Check.due("full: best rest", x.bestRest(false), 1);
        Check.due("full: many", x.bestRest(true), 120);
        Check.due("full: sound", x.isSound(), true);
        x.withdraw(1);
        dueBetween(x, 0, 1, 0, 0, 0, 0.0);
        dueTalk("half", x, 120, 60, 60, 60, 0, 0, 59, 0, 0, 0, 0, 0, 0, 60, 60, 0, 0, 0, 0, 0, 10, 0);
        Check.due("half: test", x.test(false), 0);
        Check.due("half: row", x.row(59), "59 A: ?");
        x.rest(30);
        dueTalk("one", x, 120, 60, 1, 1, 0, 0, 0, 0, 0, 0, 0, 0, 0, 1, 1, 0, 0, 0, 0, 0, 30, 0);
        dueTurn("one", x, 0, 0, 0, 0, 1426, 60, 0, 1, 1, 0, -1, 0, -1, 0, 0, -1, -1, -1);
        Check.due("one: length of its row", x.row(0).length(), 5 + 60 + 59 * 3);
    }

    private static void promise12() {
        Talk x = of(w(0, 0, 10, 0, -1), w(0, 10, 10, 2, -1), w(0, 20, 10, 1, 1), w(1, 5, 3, 0, -1),
                w(2, 26, 8, 3, -1), w(2, 35, 5, 0, -1), w(1, 41, 4, 6, -1), w(2, 60, 5, 0, -1), w(2, 80, 5, 5, 3),
                w(4, 100, 3, 4, -1), w(0, 200, 5, 2, -1), w(3, 300, 5, 0, -1));
        dueTalk("whole", x, 12, 12, 9, 7, 1, 1, 1, 1, 3, 1, 1, 1, 2, 2, 1, 1, 1, 1, 1, 0, 10, 0);
        x.cite(6);
        x.cite(0);
        x.call();
        x.withdraw(3);
        dueTalk("without D", x, 12, 11, 8, 6, 1, 1, 1, 1, 2, 1, 1, 1, 2, 2, 1, 1, 1, 1, 1, 2, 10, 1);
        x.withdraw(2);
        // A [0, 30], B [41, 45], A [200, 205]; B was chosen, and waits for an answer of A that is too late.
        dueTalk("without C and D", x, 12, 7, 5, 3, 1, 1, 0, 0, 2, 0, 0, 0, 0, 1, 1, 1, 1, 1, 1, 2, 10, 1);
        x.withdraw(0);
        dueTalk("B and E", x, 12, 3, 3, 2, 0, 1, 1, 0, 0, 0, 0, 0, 0, 1, 1, 0, 0, 1, 0, 2, 10, 1);
        x.rest(30);
        dueTalk("with a long rest", x, 12, 3, 3, 2, 0, 1, 1, 0, 0, 0, 0, 0, 0, 1, 1, 0, 0, 1, 0, 2, 30, 1);
        Check.refuses("what 22", x, ARGUMENT, () -> x.talk(22));
        Check.refuses("what -1", x, ARGUMENT, () -> x.talk(-1));
    }

    private static void dueTalk(String name, Talk x, int... due) {
        for (int what = 0; what <= 21; what++) {
            Check.due(name + ": talk(" + what + ")", x.talk(what), due[what]);
        }
    }

    private static void promise12Self() {
        dueSelf(0, 0, 2);
        dueSelf(0, 0, 0, 2);
        dueSelf(1, 1, 2, 0);
        dueSelf(1, 1, 2, 1);
        dueSelf(1, 1, 2, 5);
        dueSelf(1, 0, 2, 2);
        dueSelf(1, 0, 2, 3);
        dueSelf(1, 0, 2, 4);
        dueSelf(1, 0, 2, 6);
        dueSelf(1, 1, 2, 3, 0);
        dueSelf(2, 2, 2, 2, 1);
        dueSelf(2, 1, 2, 0, 2, 3);
        dueSelf(2, 0, 2, 6, 2, 4);
        Talk apart = of(w(0, 0, 5, 2, -1), w(0, 16, 5, 0, -1));
        Check.due("a repair in another stretch", apart.talk(15), 0);
        Talk next = of(w(0, 0, 5, 2, -1), w(0, 6, 5, 3, -1), w(0, 22, 5, 0, -1));
        Check.due("a repair", next.talk(15), 1);
        Check.due("mended in another stretch", next.talk(16), 0);
        Talk sign = of(w(0, 100, 10, 0, -1), w(0, 110, 10, 0, -1), w(0, 120, 10, 0, -1),
                w(1, 102, 2, 2, -1), w(1, 105, 2, 0, -1));
        Check.due("there is a sign", sign.talk(4), 1);
        Check.due("a repair in a sign", sign.talk(15), 1);
        Check.due("a repair in a sign, done", sign.talk(16), 1);
        sign.withdraw(1);
        Check.due("a repair that counts no more", sign.talk(15), 0);
    }

    private static void dueSelf(int many, int done, int... kinds) {
        Talk x = new Talk();
        StringBuilder name = new StringBuilder("self");
        for (int word = 0; word < kinds.length; word++) {
            x.word(3, word * 4, 3, kinds[word], -1);
            name.append(' ').append(kinds[word]);
        }
        Check.due(name.toString(), x.talk(15), many);
        Check.due(name + ", done", x.talk(16), done);
        Check.due(name + ", other", x.talk(17), kinds[kinds.length - 1] == 6 ? 1 : 0);
    }

    private static void promise12Other() {
        dueOther("the first turn", 1, 0, 16, 0);
        dueOther("mended", 1, 1, 0, 16, 0);
        dueOther("by a third one", 1, 0, 0, 16, 2);
        dueOther("by oneself", 1, 0, 0, 16, 1);
        dueOther("by nobody", 1, 0, 0, 16);
        dueOther("own turn between", 1, 1, 0, 1, 16, 0);
        dueOther("trouble of the last other one", 1, 0, 0, 2, 16, 0);
        dueOther("trouble of the last other one, mended", 1, 1, 0, 2, 16, 2);
        dueOther("what upon what", 2, 1, 0, 16, 26, 1);
        dueOther("what upon what, both mended", 2, 2, 0, 16, 6, 1);
        Talk x = of(w(0, 0, 5, 0, -1), w(1, 6, 5, 6, -1), w(1, 12, 5, 0, -1), w(0, 18, 5, 0, -1));
        Check.due("a what that is not last", x.talk(17), 0);
        Talk y = of(w(0, 0, 5, 0, -1), w(1, 6, 5, 5, -1), w(0, 18, 5, 0, -1));
        Check.due("a question is no repair", y.talk(17), 0);
    }

    /** Turns far apart, each given by its speaker, with 10 * speaker + 6 for one of kind 6. */
    private static void dueOther(String name, int many, int done, int... turns) {
        Talk x = new Talk();
        for (int turn = 0; turn < turns.length; turn++) {
            boolean isWhat = turns[turn] >= 6;
            x.word(isWhat ? turns[turn] / 10 : turns[turn], turn * 30, 5, isWhat ? 6 : 0, -1);
        }
        Check.due("other, " + name, x.talk(17), many);
        Check.due("other, " + name + ", done", x.talk(18), done);
    }

    private static void promise13And14() {
        Talk x = ofRest(1, w(0, 0, 10, 0, -1), w(1, 12, 3, 0, -1), w(0, 16, 4, 0, -1), w(1, 18, 7, 0, -1),
                w(1, 40, 5, 0, -1), w(0, 50, 5, 0, -1), w(2, 60, 5, 0, -1), w(1, 70, 5, 0, -1), w(0, 76, 4, 0, -1));
        dueBetween(x, 0, 1, 2, 0, 1, 0.0);
        dueBetween(x, 1, 0, 3, 7, 0, 7.0 / 3.0);
        dueBetween(x, 0, 2, 1, 5, 0, 5.0);
        dueBetween(x, 2, 1, 1, 5, 0, 5.0);
        dueBetween(x, 2, 0, 0, 0, 0, 0.0);
        dueBetween(x, 3, 4, 0, 0, 0, 0.0);
        x.shift(1, -1);
        dueBetween(x, 0, 1, 2, -2, 1, -1.0);
        x.withdraw(2);
        dueBetween(x, 0, 1, 3, 12, 1, 4.0);
        Talk gone = of(w(0, 0, 10, 0, -1), w(1, 12, 3, 0, -1), w(0, 30, 4, 0, -1), w(1, 36, 7, 0, -1));
        gone.withdraw(1);
        dueBetween(gone, 0, 1, 0, 0, 0, 0.0);
        Check.due("test of what is left", gone.test(false), 0);
        int[][] outside = {{-1, 0}, {0, -1}, {5, 0}, {0, 5}, {5, 5}, {-1, -1}};
        for (int[] pair : outside) {
            Check.refuses("between " + pair[0] + " " + pair[1], x, INDEX, () -> x.between(pair[0], pair[1], 0));
            Check.refuses("between, what 3 " + pair[0], x, INDEX, () -> x.between(pair[0], pair[1], 3));
            Check.refuses("mean " + pair[0] + " " + pair[1], x, INDEX, () -> x.mean(pair[0], pair[1]));
        }
        Check.refuses("between, both the same", x, ARGUMENT, () -> x.between(1, 1, 0));
        Check.refuses("between, what 3", x, ARGUMENT, () -> x.between(0, 1, 3));
        Check.refuses("between, what -1", x, ARGUMENT, () -> x.between(0, 1, -1));
        Check.refuses("mean, both the same", x, ARGUMENT, () -> x.mean(4, 4));
    }

    private static void dueBetween(Talk x, int one, int two, int many, int sum, int overlaps, double mean) {
        String name = one + " to " + two + ": ";
        Check.due(name + "how many", x.between(one, two, 0), many);
        Check.due(name + "sum", x.between(one, two, 1), sum);
        Check.due(name + "overlaps", x.between(one, two, 2), overlaps);
        Check.due(name + "mean", x.mean(one, two), mean);
    }

    private static void promise15And16() {
        Talk x = new Talk();
        int[] lengths = {1, 2, 4, 8, 16, 32, 50};
        for (int kind = 0; kind <= 6; kind++) {
            x.word(0, 100 * kind, lengths[kind], kind, -1);
        }
        Check.due("all of the floor", x.floor(0), 1.0);
        x.word(1, 5000, 6, 0, -1);
        x.word(1, 6000, 5, 0, -1);
        x.word(2, 5000, 9, 3, -1);
        Check.due("talk of all kinds", x.said(0), 89);
        Check.due("talk of two words", x.said(1), 11);
        Check.due("talk of a laugh", x.said(2), 0);
        Check.due("most of the floor", x.floor(0), 0.89);
        Check.due("the rest of the floor", x.floor(1), 0.11);
        Check.due("nothing of the floor", x.floor(2), 0.0);
        x.shift(1, 50);
        Check.due("talk, shifted", x.said(1), 11);
        x.withdraw(0);
        Check.due("talk, withdrawn", x.said(0), 0);
        Check.due("floor, withdrawn", x.floor(0), 0.0);
        Check.due("floor of the one left", x.floor(1), 1.0);
        x.withdraw(1);
        Check.due("floor, nobody talks", x.floor(2), 0.0);
        Talk sign = of(w(0, 100, 10, 0, -1), w(0, 110, 10, 0, -1), w(0, 120, 10, 0, -1), w(1, 110, 3, 0, -1));
        Check.due("talk in a sign", sign.said(1), 3);
        Check.refuses("said -1", x, INDEX, () -> x.said(-1));
        Check.refuses("said 5", x, INDEX, () -> x.said(5));
        Check.refuses("floor -1", x, INDEX, () -> x.floor(-1));
        Check.refuses("floor 5", x, INDEX, () -> x.floor(5));
    }

    private static void promise17() {
        for (int off = -4; off <= 6; off++) {
            int due = off >= -2 && off <= 4 ? 1 : 0;
            Talk one = of(w(0, 100, 10, 0, -1), w(1, 110 + off, 20, 0, -1));
            Check.due("test with off " + off, one.test(false), due);
            Check.due("two turns are not shuffled", one.test(true), 0);
            Talk two = of(w(0, 100, 10, 0, -1), w(1, 101, 2, 0, -1), w(2, 110 + off, 20, 0, -1));
            Check.due("shuffled with off " + off, two.test(true), due);
            Check.due("test of that talk: 7 more behind the one ahead", two.test(false), off <= -3 ? 1 : 0);
        }
        Talk same = ofRest(1, w(0, 100, 10, 0, -1), w(0, 112, 5, 0, -1), w(0, 119, 5, 0, -1));
        Check.due("test of one speaker", same.test(false), 0);
        Check.due("shuffled of one speaker", same.test(true), 0);
        Talk back = ofRest(1, w(0, 100, 10, 0, -1), w(1, 110, 1, 0, -1), w(0, 112, 5, 0, -1));
        Check.due("test of back and forth", back.test(false), 2);
        Check.due("shuffled of back and forth", back.test(true), 0);
        Talk twice = ofRest(1, w(0, 100, 10, 0, -1), w(1, 110, 1, 0, -1), w(1, 113, 5, 0, -1));
        Check.due("test of one who goes on", twice.test(false), 1);
        Check.due("shuffled of one who goes on", twice.test(true), 1);
    }

    private static void promise18() {
        dueAgreement("one turn, the same", 1.0, new int[][] {{2, 2}});
        dueAgreement("one turn, another", 0.0, new int[][] {{2, 3}});
        dueAgreement("half coded", 1.0, new int[][] {{2, -1}, {-1, 3}});
        dueAgreement("all the same", 1.0, new int[][] {{4, 4}, {4, 4}, {-1, 0}});
        dueAgreement("each the same", 1.0, new int[][] {{0, 0}, {4, 4}});
        dueAgreement("crossed", -1.0, new int[][] {{0, 1}, {1, 0}});
        dueAgreement("two", 1.0 / 3.0, new int[][] {{1, 1}, {2, 3}, {0, -1}});
        dueAgreement("three", 4.0 / 7.0, new int[][] {{1, 1}, {2, 3}, {0, 0}});
        dueAgreement("five", 3.0 / 18.0, new int[][] {{1, 1}, {1, 0}, {0, 1}, {3, 4}, {-1, -1}, {4, 4}, {-1, 4}});
    }

    private static void dueAgreement(String name, double due, int[][] codes) {
        Talk x = new Talk();
        for (int turn = 0; turn < codes.length; turn++) {
            x.word(turn % 5, turn * 10, 5, 0, -1);
            for (int coder = 0; coder <= 1; coder++) {
                if (codes[turn][coder] != -1) {
                    x.code(coder, turn, codes[turn][coder]);
                }
            }
        }
        Check.due("agreement, " + name, x.agreement(), due);
    }

    private static void promise19() {
        Talk x = of(w(1, 110, 3, 0, -1), w(0, 100, 10, 0, -1), w(0, 110, 10, 0, -1));
        Check.due("the first cite", x.cite(1), 0);
        Check.due("the second cite", x.cite(0), 1);
        Check.due("cited as told", x.cited(0), 1);
        x.word(0, 120, 10, 0, -1);
        Check.due("a sign now", x.cited(0), -1);
        Check.due("the one around it", x.cited(1), 0);
        x.word(0, 95, 5, 0, -1);
        Check.due("not the first word any more", x.cited(1), 0);
        x.shift(1, -50);
        Check.due("a turn again, by another number", x.cited(0), 0);
        Check.due("the other one has moved on", x.cited(1), 1);
        x.withdraw(1);
        Check.due("withdrawn", x.cited(0), -1);
        Check.due("the other one is the first", x.cited(1), 0);
        Check.refuses("cite 2", x, INDEX, () -> x.cited(2));
        Check.refuses("cite -1", x, INDEX, () -> x.cited(-1));
    }

    private static void promise20() {
        Talk x = of(w(0, 0, 1, 0, -1), w(0, 1, 1, 1, -1), w(0, 3, 1, 2, -1), w(0, 6, 1, 3, -1),
                w(0, 10, 1, 4, -1), w(0, 15, 1, 5, -1), w(0, 26, 1, 6, -1));
        Check.due("all kinds", x.row(0), "0 A: o._-__h___x___?___!");
        x.word(4, 27, 2, 2, -1);
        Check.due("a latch", x.row(0), "0 A: o._-__h___x___?___!=");
        Check.due("the last row", x.row(1), "1 E: -");
        x.shift(4, 1);
        Check.due("a latch of 1", x.row(0), "0 A: o._-__h___x___?___!=");
        x.shift(4, 2);
        Check.due("a gap", x.row(0), "0 A: o._-__h___x___?___!");
        x.shift(4, -1);
        Check.due("an overlap", x.row(0), "0 A: o._-__h___x___?___!]");
        x.shift(4, 73);
        x.word(4, 40, 2, 1, -1);
        Check.due("a pause", x.row(1), "1 E: -");
        Check.due("behind a pause", x.row(2), "2 E: .");
        x.withdraw(0);
        Check.due("the first row now", x.row(0), "0 E: -");
        x.withdraw(4);
        Check.refuses("no row left", x, INDEX, () -> x.row(0));
        Check.due("a gap behind the first word", of(w(3, 0, 5, 1, -1), w(3, 7, 5, 0, -1)).row(0), "0 D: .__o");
        Talk fewer = of(w(0, 0, 5, 0, -1), w(1, 5, 9, 0, -1), w(2, 8, 9, 0, -1));
        Check.due("ahead of an overlap", fewer.row(1), "1 B: o]");
        fewer.withdraw(2);
        Check.due("the overlap is gone", fewer.row(1), "1 B: o");
        Talk many = new Talk();
        for (int turn = 0; turn < 101; turn++) {
            many.word(turn % 5, turn * 12, 5, 0, -1);
        }
        Check.due("row 9", many.row(9), "9 E: o");
        Check.due("row 11", many.row(11), "11 B: o");
        Check.due("row 12", many.row(12), "12 C: o");
        Check.due("row 13", many.row(13), "13 D: o");
        Check.due("row 100", many.row(100), "100 A: o");
        Check.refuses("row -1", many, INDEX, () -> many.row(-1));
        Check.refuses("row 101", many, INDEX, () -> many.row(101));
    }
}
