/** Promises 21 to 25: what would be. (Promise 26 has DigestTest.) */
public final class WouldBeTest {
    private static final Class<IndexOutOfBoundsException> INDEX = IndexOutOfBoundsException.class;

    private WouldBeTest() {
    }

    public static void main(String[] args) {
        promise21();
        promise22();
        promise23();
        promise24();
        promise25();
        nothingIsChanged();
        Check.end("WouldBeTest");
    }

    private static void promise21() {
        Talk x = new Talk();
        x.word(0, 100, 10, 0, -1);
        int[][] due = { // START, length, whether it fits
            {0, 1, 1}, {0, 50, 1}, {20000, 50, 1}, {50, 50, 1}, {110, 1, 1}, {90, 10, 1},
            {-1, 1, 0}, {20001, 1, 0}, {0, 0, 0}, {0, 51, 0}, {0, -1, 0}, {51, 50, 0}, {109, 1, 0}, {100, 1, 0},
            {99, 2, 0}, {95, 30, 0}, {103, 2, 0}, {Integer.MAX_VALUE, 1, 0}, {Integer.MIN_VALUE, 50, 0},
            {Integer.MAX_VALUE, Integer.MAX_VALUE, 0}, {5, Integer.MAX_VALUE, 0}, {5, Integer.MIN_VALUE, 0},
        };
        for (int[] row : due) {
            Check.due("fits at " + row[0] + " for " + row[1], x.fits(0, row[0], row[1]), row[2] == 1);
        }
        Check.due("fits another", x.fits(1, 100, 10), true);
        x.shift(0, 50);
        Check.due("fits by the channel", x.fits(0, 150, 10), true);
        Check.due("fits by the channel, shared", x.fits(0, 100, 10), false);
        x.withdraw(0);
        Check.due("withdrawn", x.fits(0, 500, 10), false);
        Check.refuses("speaker 5", x, INDEX, () -> x.fits(5, 0, 1));
        Check.refuses("speaker -1", x, INDEX, () -> x.fits(-1, -1, 0));
        for (int word = 1; word < 120; word++) {
            Check.due("room for word " + word, x.fits(2, word * 10, 5), true);
            x.word(2, word * 10, 5, 0, -1);
        }
        Check.due("no room for word 120", x.fits(3, 0, 1), false);
    }

    private static void promise22() {
        Talk x = new Talk();
        x.word(4, 0, 5, 4, 1);
        dueWouldCome("only a breath", x, -1, -1, -1, -1, -1);
        x.word(0, 100, 5, 0, -1);
        dueWouldCome("nobody is chosen", x, 1, 2, 2, 2, 2);
        x.word(0, 106, 5, 0, 3);
        dueWouldCome("D is chosen", x, 1, 3, 3, 0, 3);
        x.word(1, 50, 5, 0, 4);
        dueWouldCome("a turn ahead does not matter", x, 1, 3, 3, 0, 3);
        x.withdraw(3);
        dueWouldCome("D is withdrawn", x, 1, 3, 3, 0, 3);
        x.withdraw(0);
        dueWouldCome("A is withdrawn", x, 3, 1, 3, 3, 0);
        Check.refuses("speaker 5", x, INDEX, () -> x.wouldCome(5));
        Check.refuses("speaker -1", x, INDEX, () -> x.wouldCome(-1));
    }

    private static void dueWouldCome(String name, Talk x, int... due) {
        for (int speaker = 0; speaker <= 4; speaker++) {
            Check.due(name + ": " + speaker, x.wouldCome(speaker), due[speaker]);
        }
    }

    private static void promise23() {
        Talk x = new Talk();
        x.word(0, 0, 5, 0, -1);
        dueBestRest("one word", x, 1, 1);
        x.word(0, 7, 5, 0, -1);
        dueBestRest("2 apart", x, 1, 2);
        x.rest(30);
        dueBestRest("whatever the rest is now", x, 1, 2);
        Talk y = new Talk();
        y.word(0, 0, 5, 3, -1);
        dueBestRest("a laugh", y, 1, 0);
        y.word(0, 35, 5, 0, -1);
        dueBestRest("a laugh 30 ahead of a word", y, 1, 1);
        bestRestThatIsLonger();
    }

    /** Two words within the talk of another are signs, and three that become one STRETCH are a TURN. */
    private static void bestRestThatIsLonger() {
        Talk x = new Talk();
        for (int word = 0; word < 3; word++) {
            x.word(0, 100 + word * 50, 50, 0, -1);
        }
        x.word(1, 110, 5, 0, -1);
        x.word(1, 122, 5, 0, -1);
        x.word(1, 132, 5, 0, -1);
        dueBestRest("7 and 5 apart", x, 7, 2);
        x.word(2, 160, 5, 0, -1);
        x.word(2, 195, 5, 0, -1);
        x.word(2, 230, 5, 0, -1);
        dueBestRest("30 apart, too", x, 30, 3);
        x.withdraw(2);
        dueBestRest("without those", x, 7, 2);
        x.word(3, 160, 5, 0, -1);
        x.word(3, 196, 5, 0, -1);
        x.word(3, 232, 5, 0, -1);
        dueBestRest("31 apart are not tried", x, 7, 2);
        x.rest(30);
        dueBestRest("31 apart, whatever the rest is now", x, 7, 2);
    }

    private static void dueBestRest(String name, Talk x, int rest, int many) {
        Check.due(name + ": best rest", x.bestRest(false), rest);
        Check.due(name + ": turns by it", x.bestRest(true), many);
    }

    private static void promise24() {
        dueBestShift("a gap", 110, 115, -5);
        dueBestShift("an overlap", 110, 107, 3);
        dueBestShift("a latch", 110, 110, 0);
        dueBestShift("the last one ahead", 110, 130, -20);
        dueBestShift("too far ahead", 110, 131, -20);
        dueBestShift("the last one behind", 110, 90, 20);
        dueBestShift("too far behind", 110, 89, 20);
        Talk none = new Talk();
        none.word(0, 0, 5, 0, -1);
        Check.due("one turn", none.bestShift(0), 0);
        Check.due("no words", none.bestShift(4), 0);
        Talk own = new Talk();
        own.word(1, 100, 10, 0, -1);
        own.word(1, 200, 10, 0, -1);
        Check.due("pauses do not matter", own.bestShift(1), 0);

        Talk x = new Talk();
        x.word(0, 100, 10, 0, -1);
        x.word(1, 150, 10, 0, -1);
        Check.due("as far as can be", x.bestShift(1), -20);
        x.withdraw(1);
        Check.due("withdrawn", x.bestShift(1), 0);
        bestShiftOfSeveral();
        Check.refuses("speaker 5", x, INDEX, () -> x.bestShift(5));
        Check.refuses("speaker -1", x, INDEX, () -> x.bestShift(-1));
    }

    private static void dueBestShift(String name, int end, int start, int due) {
        Talk x = new Talk();
        x.word(0, end - 10, 10, 0, -1);
        x.word(1, start, 50, 0, -1);
        Check.due(name, x.bestShift(1), due);
        for (int shift : new int[] {-100, -7, 20, 100}) {
            x.shift(1, shift);
            Check.due(name + ", in place of the shift now: " + shift, x.bestShift(1), due);
        }
        x.shift(1, 0);
        Check.due(name + ", by moving the other one", x.bestShift(0), -due);
    }

    private static void bestShiftOfSeveral() {
        // A ends at 110, C starts at 124: with B from 108 to 118 and a shift of s, OFF is s - 2 and 6 - s.
        Check.due("the smallest of 2 to 6", shiftBetween(108), 2);
        Check.due("the smallest of -4 to 0", shiftBetween(114), 0);
        Check.due("the smallest of -2 to 2", shiftBetween(112), 0);
        Check.due("the smallest of -6 to -2", shiftBetween(116), -2);
        Talk y = new Talk();
        y.word(0, 100, 3, 0, -1);
        y.word(1, 101, 1, 0, -1);
        // B ahead of A: OFF of A is 100 - (102 + s), 0 by -2; B behind A: OFF is 101 + s - 103, 0 by 2.
        Check.due("of -2 and 2 the one below 0", y.bestShift(1), -2);
        y.shift(0, 1);
        Check.due("of -1 and 3 the smaller one", y.bestShift(1), -1);
        y.shift(0, -1);
        Check.due("of -3 and 1 the smaller one", y.bestShift(1), 1);
        // B is 11 long, and fits between two of A, or behind both: a PAUSE between those is no part of the sum.
        Check.due("between them", shiftAtPause(120), -10);
        Check.due("behind them", shiftAtPause(121), 10);
    }

    private static int shiftAtPause(int start) {
        Talk x = new Talk();
        x.word(0, 100, 10, 0, -1);
        x.word(0, 121, 10, 0, -1);
        x.word(1, start, 11, 0, -1);
        return x.bestShift(1);
    }

    private static int shiftBetween(int start) {
        Talk x = new Talk();
        x.word(0, 100, 10, 0, -1);
        x.word(1, start, 10, 0, -1);
        x.word(2, 124, 10, 0, -1);
        return x.bestShift(1);
    }

    private static void promise25() {
        Talk x = new Talk();
        Check.due("sound as new", x.isSound(), true);
        int[][] words = {{0, 0, 10, 5, 1}, {1, 12, 5, 6, -1}, {0, 30, 5, 0, -1}, {1, 33, 9, 1, 2}, {2, 60, 5, 3, -1},
            {3, 90, 5, 2, -1}, {3, 95, 5, 2, -1}, {3, 105, 20, 0, 1}, {4, 100, 3, 0, -1}, {1, 300, 5, 5, -1}, {2, 400, 5, 0, -1}};
        for (int[] word : words) {
            x.word(word[0], word[1], word[2], word[3], word[4]);
            Check.due("sound with a word more", x.isSound(), true);
        }
        for (int shift = -100; shift <= 100; shift += 10) {
            x.shift(1, shift);
            Check.due("sound by a shift", x.isSound(), true);
        }
        x.shift(1, 0);
        for (int rest = 1; rest <= 30; rest++) {
            x.rest(rest);
            Check.due("sound by a rest", x.isSound(), true);
        }
        for (int speaker = 0; speaker <= 4; speaker++) {
            x.withdraw(speaker);
            Check.due("sound without one more", x.isSound(), true);
        }
    }

    /** What is asked, and what would be: a call of each is told again with all else, and nothing is changed. */
    private static void nothingIsChanged() {
        Talk x = new Talk().say(0, 0, 10, 5, 1).say(0, 12, 10, 0, -1).say(1, 14, 5, 0, -1).say(1, 40, 5, 1, -1);
        x.shift(1, 9);
        x.rest(7);
        x.cite(1);
        String before = Check.state(x);
        for (int one = 0; one <= 4; one++) {
            int speaker = one;
            int other = (one + 1) % 5;
            x.tell(t -> t.fits(speaker, 100, 10));
            x.tell(t -> t.wouldCome(speaker));
            x.tell(t -> t.bestShift(speaker));
            x.tell(t -> t.said(speaker) + t.floor(speaker));
            x.tell(t -> t.mean(speaker, other) + t.between(speaker, other, 1));
            Check.due("asking of a speaker changes nothing", Check.state(x), before);
        }
        x.tell(t -> t.bestRest(true));
        x.tell(t -> t.bestRest(false));
        x.tell(t -> t.isSound());
        x.tell(t -> t.digest());
        x.tell(t -> t.test(true) + t.test(false) + t.agreement());
        x.tell(t -> t.row(0) + t.row(1));
        x.tell(t -> t.cited(0) + t.ofTurn(1, 7) + t.ofQuestion(0, 2) + t.ofWord(0, 7) + t.talk(21));
        Check.due("asking of all changes nothing", Check.state(x), before);
    }
}
