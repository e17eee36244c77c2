/** Promises 1 to 8: a new object, and what is told. */
public final class ToldTest {
    private static final Class<IndexOutOfBoundsException> INDEX = IndexOutOfBoundsException.class;
    private static final Class<IllegalArgumentException> ARGUMENT = IllegalArgumentException.class;
    private static final Class<IllegalStateException> STATE = IllegalStateException.class;

    private ToldTest() {
    }

    public static void main(String[] args) {
        promise1();
        promise2();
        promise2SharedTime();
        promise2Full();
        promise3();
        promise4();
        promise5();
        promise6();
        promise6KeptByWords();
        promise7();
        promise8();
        Check.end("ToldTest");
    }

    private static void promise1() {
        Talk x = new Talk();
        for (int what = 0; what <= 21; what++) {
            Check.due("new talk(" + what + ")", x.talk(what), what == 20 ? 10 : 0);
        }
        for (int speaker = 0; speaker <= 4; speaker++) {
            Check.due("new said", x.said(speaker), 0);
            Check.due("new floor", x.floor(speaker), 0.0);
            Check.due("new wouldCome", x.wouldCome(speaker), -1);
            Check.due("new bestShift", x.bestShift(speaker), 0);
            Check.due("new fits", x.fits(speaker, 0, 1), true);
            Check.due("new shift", x.shift(speaker, 0), 0);
        }
        Check.due("new agreement", x.agreement(), 1.0);
        Check.due("new bestRest", x.bestRest(false), 1);
        Check.due("new bestRest, many", x.bestRest(true), 0);
        Check.due("new isSound", x.isSound(), true);
        Check.refuses("new ofWord", x, INDEX, () -> x.ofWord(0, 0));
        Check.refuses("new ofTurn", x, INDEX, () -> x.ofTurn(0, 0));
        Check.refuses("new cited", x, INDEX, () -> x.cited(0));
        Talk other = new Talk();
        other.word(0, 0, 1, 0, -1);
        other.call();
        Check.due("words of another object", x.talk(0), 0);
        Check.due("calls of another object", x.talk(21), 0);
    }

    private static void promise2() {
        Talk x = new Talk();
        Check.due("the first word", x.word(0, 0, 1, 0, -1), 0);
        Check.due("the last start, the longest, the last kind, the last look", x.word(4, 20000, 50, 6, 3), 1);
        Check.due("the first speaker looked at", x.word(4, 0, 50, 6, 0), 2);
        Check.due("look at the last speaker", x.word(0, 20000, 50, 5, 4), 3);
        Check.refuses("speaker -1", x, INDEX, () -> x.word(-1, 100, 1, 0, -1));
        Check.refuses("speaker 5", x, INDEX, () -> x.word(5, 100, 1, 0, -1));
        Check.refuses("look -2", x, INDEX, () -> x.word(0, 100, 1, 0, -2));
        Check.refuses("look 5", x, INDEX, () -> x.word(0, 100, 1, 0, 5));
        Check.refuses("start -1", x, ARGUMENT, () -> x.word(0, -1, 1, 0, -1));
        Check.refuses("start 20001", x, ARGUMENT, () -> x.word(1, 20001, 1, 0, -1));
        Check.refuses("length 0", x, ARGUMENT, () -> x.word(0, 100, 0, 0, -1));
        Check.refuses("length 51", x, ARGUMENT, () -> x.word(0, 100, 51, 0, -1));
        Check.refuses("length -1", x, ARGUMENT, () -> x.word(0, 100, -1, 0, -1));
        Check.refuses("kind -1", x, ARGUMENT, () -> x.word(0, 100, 1, -1, -1));
        Check.refuses("kind 7", x, ARGUMENT, () -> x.word(0, 100, 1, 7, -1));
        Check.refuses("look at oneself", x, ARGUMENT, () -> x.word(3, 100, 1, 0, 3));
        Check.refuses("all far out", x, INDEX, () -> x.word(Integer.MAX_VALUE, Integer.MIN_VALUE, 99, 99, 99));
        Check.refuses("far start", x, ARGUMENT, () -> x.word(0, Integer.MAX_VALUE, Integer.MAX_VALUE, 0, -1));
        Check.refuses("far below", x, ARGUMENT, () -> x.word(0, Integer.MIN_VALUE, Integer.MIN_VALUE, 0, -1));
        Check.refuses("look and kind: the index first", x, INDEX, () -> x.word(0, -5, 0, 9, 5));
        Check.refuses("oneself and shared time: the argument first", x, ARGUMENT, () -> x.word(0, 0, 1, 0, 0));
        Check.refuses("kind and shared time: the argument first", x, ARGUMENT, () -> x.word(0, 0, 1, 7, -1));
        x.withdraw(1);
        Check.refuses("withdrawn", x, STATE, () -> x.word(1, 100, 1, 0, -1));
        Check.refuses("withdrawn, kind 7", x, ARGUMENT, () -> x.word(1, 100, 1, 7, -1));
        Check.refuses("withdrawn, look 5", x, INDEX, () -> x.word(1, 100, 1, 7, 5));
        Check.due("look at one who is withdrawn", x.word(0, 100, 1, 0, 1), 4);
    }

    private static void promise2SharedTime() {
        Talk x = new Talk();
        x.word(0, 100, 10, 0, -1);
        int[][] shared = {{100, 10}, {99, 2}, {109, 1}, {102, 3}, {90, 50}, {109, 50}, {61, 40}};
        for (int[] time : shared) {
            Check.refuses("shared " + time[0], x, STATE, () -> x.word(0, time[0], time[1], 0, -1));
        }
        x.shift(0, 50);
        Check.refuses("shared on the channel", x, STATE, () -> x.word(0, 109, 1, 0, -1));
        Check.due("right behind", x.word(0, 110, 1, 0, -1), 1);
        Check.due("right ahead", x.word(0, 99, 1, 0, -1), 2);
        Check.due("by another speaker", x.word(1, 100, 10, 0, -1), 3);
        Check.due("at what the shift makes of it", x.word(0, 150, 10, 0, -1), 4);
    }

    private static void promise2Full() {
        Talk x = new Talk();
        for (int word = 0; word < 120; word++) {
            Check.due("word " + word, x.word(word % 5, word * 100, 50, word % 7, -1), word);
        }
        Check.refuses("word 120", x, STATE, () -> x.word(0, 20000, 1, 0, -1));
        Check.refuses("word 120 of kind 7", x, ARGUMENT, () -> x.word(0, 20000, 1, 7, -1));
        Check.refuses("word 120 of speaker 5", x, INDEX, () -> x.word(5, 20000, 1, 7, -1));
        x.withdraw(0);
        Check.refuses("word 120 behind a withdrawal", x, STATE, () -> x.word(1, 20000, 1, 0, -1));
        Check.due("words ever", x.talk(0), 120);
        Check.due("words that count", x.talk(1), 96);
    }

    private static void promise3() {
        Talk x = new Talk();
        x.word(0, 0, 5, 0, -1);
        x.word(0, 15, 5, 0, -1);
        x.word(1, 7, 2, 0, -1);
        Check.due("10 behind are one stretch, whatever others say", x.talk(2), 2);
        Check.due("the first rest", x.rest(9), 10);
        Check.due("10 behind with a rest of 9", x.talk(2), 3);
        Check.due("rest 30", x.rest(30), 9);
        Check.due("rest 1", x.rest(1), 30);
        Check.refuses("rest 0", x, ARGUMENT, () -> x.rest(0));
        Check.refuses("rest 31", x, ARGUMENT, () -> x.rest(31));
        Check.refuses("rest -1", x, ARGUMENT, () -> x.rest(-1));
        Check.refuses("rest far out", x, ARGUMENT, () -> x.rest(Integer.MAX_VALUE));
        Check.due("a refused rest is not kept", x.rest(1), 1);
        Talk y = new Talk();
        y.word(2, 0, 1, 0, -1);
        y.word(2, 1, 1, 0, -1);
        y.word(2, 3, 1, 0, -1);
        y.word(2, 6, 1, 0, -1);
        y.word(2, 37, 1, 0, -1);
        y.word(2, 69, 1, 0, -1);
        y.rest(1);
        Check.due("0 and 1 behind with a rest of 1", y.talk(2), 4);
        y.rest(2);
        Check.due("2 behind with a rest of 2", y.talk(2), 3);
        y.rest(30);
        Check.due("30 and 31 behind with a rest of 30", y.talk(2), 2);
    }

    private static void promise4() {
        Talk x = new Talk();
        x.word(0, 0, 5, 0, -1);
        x.word(1, 5, 5, 0, -1);
        Check.due("the first shift", x.shift(0, -100), 0);
        Check.due("start below 0", x.ofWord(0, 1), -100);
        Check.due("end below 0", x.ofWord(0, 2), -95);
        Check.due("start of a turn below 0", x.ofTurn(0, 1), -100);
        Check.due("off by a shift", x.ofTurn(1, 7), 100);
        Check.due("the second shift", x.shift(0, 100), -100);
        Check.due("a shift is not added to that before", x.ofWord(0, 1), 100);
        Check.due("the other channel stays", x.ofWord(1, 1), 5);
        Check.due("turns change places", x.ofTurn(0, 0), 1);
        Check.due("the shift of the other one", x.shift(1, 7), 0);
        Check.due("that of the first one", x.shift(0, 0), 100);
        Check.refuses("shift 101", x, ARGUMENT, () -> x.shift(0, 101));
        Check.refuses("shift -101", x, ARGUMENT, () -> x.shift(0, -101));
        Check.refuses("shift far out", x, ARGUMENT, () -> x.shift(4, Integer.MIN_VALUE));
        Check.refuses("speaker 5", x, INDEX, () -> x.shift(5, 0));
        Check.refuses("speaker -1", x, INDEX, () -> x.shift(-1, 0));
        Check.refuses("speaker and shift: the index first", x, INDEX, () -> x.shift(5, 101));
        x.withdraw(1);
        Check.due("one who is withdrawn has a shift", x.shift(1, 20), 7);
        Check.due("and times by it", x.ofWord(1, 1), 25);
        x.shift(0, 3);
        Check.due("words told later are shifted too", x.ofWord(x.word(0, 50, 2, 0, -1), 1), 53);
    }

    private static void promise5() {
        Talk x = new Talk();
        x.word(0, 0, 5, 0, -1);
        x.word(1, 10, 5, 5, -1);
        x.word(1, 200, 5, 0, -1);
        x.word(2, 20, 5, 0, -1);
        x.cite(1);
        Check.due("two words count no more", x.withdraw(1), 2);
        Check.due("none of one without words", x.withdraw(4), 0);
        Check.refuses("again", x, STATE, () -> x.withdraw(1));
        Check.refuses("again without words", x, STATE, () -> x.withdraw(4));
        Check.refuses("speaker 5", x, INDEX, () -> x.withdraw(5));
        Check.refuses("speaker -1", x, INDEX, () -> x.withdraw(-1));
        Check.due("words ever", x.talk(0), 4);
        Check.due("words that count", x.talk(1), 2);
        Check.due("turns", x.talk(3), 2);
        Check.due("the numbers stay", x.ofWord(3, 0), 2);
        Check.due("of a word that does not count", x.ofWord(1, 5), 0);
        Check.due("its cite", x.cited(0), -1);
        Check.due("its talk", x.said(1), 0);
        Check.due("none fits", x.fits(1, 500, 1), false);
        Check.due("numbers go on", x.word(0, 300, 1, 0, -1), 4);
    }

    private static void promise6() {
        Talk x = new Talk();
        x.word(0, 0, 5, 0, -1);
        x.word(1, 10, 5, 0, -1);
        Check.due("no code before", x.code(0, 0, 4), -1);
        Check.due("none by the other coder", x.code(1, 0, 0), -1);
        Check.due("that before", x.code(0, 0, 2), 4);
        Check.due("that before by the other one", x.code(1, 0, 3), 0);
        Check.due("none of the other turn", x.code(0, 1, 1), -1);
        Check.due("the code by 0", x.ofTurn(0, 14), 2);
        Check.due("the code by 1", x.ofTurn(0, 15), 3);
        Check.due("no code by 1", x.ofTurn(1, 15), -1);
        Check.refuses("coder 2", x, INDEX, () -> x.code(2, 0, 0));
        Check.refuses("coder -1", x, INDEX, () -> x.code(-1, 0, 0));
        Check.refuses("turn 2", x, INDEX, () -> x.code(0, 2, 0));
        Check.refuses("turn -1", x, INDEX, () -> x.code(0, -1, 0));
        Check.refuses("code 5", x, ARGUMENT, () -> x.code(0, 0, 5));
        Check.refuses("code -1", x, ARGUMENT, () -> x.code(1, 1, -1));
        Check.refuses("turn and code: the index first", x, INDEX, () -> x.code(0, 2, 5));
        Check.refuses("coder and code: the index first", x, INDEX, () -> x.code(2, 0, 5));
    }

    private static void promise6KeptByWords() {
        Talk x = new Talk();
        x.word(0, 100, 5, 0, -1);
        x.word(0, 120, 5, 0, -1);
        x.code(0, 0, 1);
        x.code(0, 1, 2);
        x.rest(20);
        Check.due("one turn has the code of its first word", x.ofTurn(0, 14), 1);
        x.word(0, 80, 5, 0, -1);
        Check.due("a new first word has none", x.ofTurn(0, 14), -1);
        Check.due("none was told for it", x.code(0, 0, 4), -1);
        x.rest(10);
        Check.due("three turns again: of the first", x.ofTurn(0, 14), 4);
        Check.due("of the second", x.ofTurn(1, 14), 1);
        Check.due("of the third", x.ofTurn(2, 14), 2);
        x.word(1, 0, 5, 0, -1);
        Check.due("codes go with the words, not with the numbers", x.ofTurn(2, 14), 1);
    }

    private static void promise7() {
        Talk x = new Talk();
        x.word(0, 0, 5, 0, -1);
        x.word(1, 10, 5, 0, -1);
        Check.refuses("turn 2", x, INDEX, () -> x.cite(2));
        Check.refuses("turn -1", x, INDEX, () -> x.cite(-1));
        for (int cite = 0; cite < 20; cite++) {
            Check.due("cite " + cite, x.cite(cite % 2), cite);
        }
        Check.refuses("cite 20", x, STATE, () -> x.cite(0));
        Check.refuses("cite 20 of turn 2: the index first", x, INDEX, () -> x.cite(2));
        Check.due("cites", x.talk(19), 20);
        Check.due("the last cite", x.cited(19), 1);
    }

    private static void promise8() {
        Talk x = new Talk();
        Check.due("the first call", x.call(), 1);
        Check.due("the second call", x.call(), 2);
        x.word(0, 0, 5, 0, -1);
        Check.due("the third call", x.call(), 3);
        Check.due("refused", x.talk(21), 3);
        Check.due("words", x.talk(0), 1);
    }
}
