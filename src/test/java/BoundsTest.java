/** The terms of the document: for each sentence that names a bound, what lies on both sides of it. */
public final class BoundsTest {
    private static final Class<IndexOutOfBoundsException> INDEX = IndexOutOfBoundsException.class;
    private static final Class<IllegalArgumentException> ARGUMENT = IllegalArgumentException.class;
    private static final Class<IllegalStateException> STATE = IllegalStateException.class;

    private BoundsTest() {
    }

    public static void main(String[] args) {
        words();
        stretches();
        signsAndAir();
        fromTurnToTurn();
        pairs();
        repairs();
        numbers();
        codersAndCitations();
        Check.end("BoundsTest");
    }

    // ---- 1. Words

    private static void words() {
        speakersAreFive();
        wordsAreAtMost120();
        startsAreTo20000();
        endsAreTo50Later();
        looksAreAtOthers();
        wordsShareNoTime();
        kindsAreSeven();
        shiftsAreTo100();
        shiftsMoveTimes();
        theWithdrawnDoNotCount();
    }

    /** "SPEAKERS 0 to 4." */
    private static void speakersAreFive() {
        for (int one = 0; one <= 4; one++) {
            int speaker = one;
            Talk x = new Talk();
            Check.due("word of " + speaker, x.word(speaker, 0, 5, 0, -1), 0);
            Check.due("speaker of the word of " + speaker, x.ofWord(0, 0), speaker);
            Check.due("speaker of the turn of " + speaker, x.ofTurn(0, 0), speaker);
        }
        Talk x = new Talk();
        Check.refuses("word of -1", x, INDEX, () -> x.word(-1, 0, 5, 0, -1));
        Check.refuses("word of 5", x, INDEX, () -> x.word(5, 0, 5, 0, -1));
    }

    /** "WORDS: at most 120 ever, numbered from 0 as they are told". */
    private static void wordsAreAtMost120() {
        Talk x = new Talk();
        for (int word = 0; word < 120; word++) {
            Check.due("room for word " + word, x.fits(word % 5, (119 - word) * 100, 5), true);
            Check.due("number of word " + word, x.word(word % 5, (119 - word) * 100, 5, 0, -1), word);
        }
        for (int word = 0; word < 120; word++) {
            Check.due("start of word " + word, x.ofWord(word, 1), (119 - word) * 100);
        }
        Check.due("room for word 120", x.fits(0, 20000, 5), false);
        Check.refuses("word 120", x, STATE, () -> x.word(0, 20000, 5, 0, -1));
        x.withdraw(3);
        Check.due("room behind a withdrawal: 120 ever", x.fits(0, 20000, 5), false);
        Check.refuses("word 120 behind a withdrawal", x, STATE, () -> x.word(0, 20000, 5, 0, -1));
    }

    /** "each of a SPEAKER, with a START (0 to 20000)". */
    private static void startsAreTo20000() {
        for (int start : new int[] {0, 1, 19999, 20000}) {
            Talk x = new Talk();
            Check.due("fits at " + start, x.fits(1, start, 5), true);
            Check.due("word at " + start, x.word(1, start, 5, 0, -1), 0);
            Check.due("its start", x.ofWord(0, 1), start);
        }
        for (int start : new int[] {Integer.MIN_VALUE, -50, -1, 20001, 20050, Integer.MAX_VALUE}) {
            Talk x = new Talk();
            Check.due("fits at " + start, x.fits(1, start, 5), false);
            Check.refuses("word at " + start, x, ARGUMENT, () -> x.word(1, start, 5, 0, -1));
        }
    }

    /** "and an END (1 to 50 later) on the channel of that SPEAKER". */
    private static void endsAreTo50Later() {
        for (int start : new int[] {0, 20000}) {
            for (int length : new int[] {1, 2, 49, 50}) {
                Talk x = new Talk();
                Check.due("fits for " + length, x.fits(1, start, length), true);
                Check.due("word for " + length, x.word(1, start, length, 0, -1), 0);
                Check.due("its end", x.ofWord(0, 2), start + length);
                Check.due("the end of its turn", x.ofTurn(0, 2), start + length);
            }
            for (int length : new int[] {Integer.MIN_VALUE, -1, 0, 51, Integer.MAX_VALUE}) {
                Talk x = new Talk();
                Check.due("fits for " + length, x.fits(1, start, length), false);
                Check.refuses("word for " + length, x, ARGUMENT, () -> x.word(1, start, length, 0, -1));
            }
        }
    }

    /** "and a LOOK (at another SPEAKER, or NONE)". */
    private static void looksAreAtOthers() {
        for (int speaker = 0; speaker <= 4; speaker++) {
            for (int look = -1; look <= 4; look++) {
                int by = speaker;
                int at = look;
                Talk x = new Talk();
                if (by == at) {
                    Check.refuses(by + " looks at " + at, x, ARGUMENT, () -> x.word(by, 0, 5, 0, at));
                } else {
                    Check.due(by + " looks at " + at, x.word(by, 0, 5, 0, at), 0);
                    Check.due("its look", x.ofWord(0, 4), at);
                }
            }
            int by = speaker;
            Talk x = new Talk();
            Check.refuses(by + " looks at -2", x, INDEX, () -> x.word(by, 0, 5, 0, -2));
            Check.refuses(by + " looks at 5", x, INDEX, () -> x.word(by, 0, 5, 0, 5));
        }
    }

    /** "Of two WORDS of one SPEAKER the one ends as the other one starts, or earlier." */
    private static void wordsShareNoTime() {
        int[][] apart = {{90, 10}, {99, 1}, {50, 50}, {110, 10}, {110, 1}, {119, 1}, {111, 8}, {130, 50}, {0, 1}};
        for (int[] time : apart) {
            Talk x = new Talk().say(2, 100, 10, 0, -1).say(2, 120, 10, 0, -1);
            Check.due("fits at " + time[0] + " for " + time[1], x.fits(2, time[0], time[1]), true);
            Check.due("word at " + time[0] + " for " + time[1], x.word(2, time[0], time[1], 0, -1), 2);
        }
        int[][] shared = {{91, 10}, {90, 11}, {51, 50}, {99, 2}, {100, 1}, {100, 10}, {105, 1}, {109, 1}, {109, 2},
            {110, 11}, {119, 2}, {109, 11}, {95, 50}, {120, 10}, {129, 1}, {129, 50}};
        for (int[] time : shared) {
            Talk x = new Talk().say(2, 100, 10, 0, -1).say(2, 120, 10, 0, -1);
            Check.due("fits at " + time[0] + " for " + time[1], x.fits(2, time[0], time[1]), false);
            Check.refuses("word at " + time[0] + " for " + time[1], x, STATE,
                    () -> x.word(2, time[0], time[1], 0, -1));
            Check.due("another fits at " + time[0], x.fits(1, time[0], time[1]), true);
            Check.due("another at " + time[0], x.word(1, time[0], time[1], 0, -1), 2);
        }
    }

    /** "KINDS: 0 plain; 1 [..] (a POINT); 2 CUT OFF; 3 a laugh; 4 a breath; 5 a question [..]; 6 <<what?>>". */
    private static void kindsAreSeven() {
        for (int kind = 0; kind <= 6; kind++) {
            Talk x = new Talk();
            Check.due("word of kind " + kind, x.word(0, 0, 5, kind, -1), 0);
            Check.due("its kind", x.ofWord(0, 3), kind);
        }
        Talk x = new Talk();
        Check.refuses("word of kind -1", x, ARGUMENT, () -> x.word(0, 0, 5, -1, -1));
        Check.refuses("word of kind 7", x, ARGUMENT, () -> x.word(0, 0, 5, 7, -1));
    }

    /** "SHIFT of a SPEAKER (-100 to 100; 0 at first)". */
    private static void shiftsAreTo100() {
        for (int one = 0; one <= 4; one++) {
            int speaker = one;
            Talk x = new Talk().say(speaker, 500, 5, 0, -1);
            Check.due("shift at first", x.shift(speaker, -100), 0);
            Check.due("the last one below", x.shift(speaker, 100), -100);
            Check.due("the last one above", x.shift(speaker, -99), 100);
            Check.refuses("shift -101", x, ARGUMENT, () -> x.shift(speaker, -101));
            Check.refuses("shift 101", x, ARGUMENT, () -> x.shift(speaker, 101));
            Check.due("a refused shift is not told", x.shift(speaker, 99), -99);
            Check.due("start by a shift of 99", x.ofWord(0, 1), 599);
        }
    }

    /** "is added to all times of its channel: START and END are those with SHIFT [..] (they can be below 0)." */
    private static void shiftsMoveTimes() {
        int[][] due = { // START, length, SHIFT; START and END by it
            {0, 1, -100, -100, -99}, {99, 1, -100, -1, 0}, {100, 1, -100, 0, 1}, {0, 1, -1, -1, 0},
            {0, 50, -49, -49, 1}, {20000, 50, 100, 20100, 20150}, {20000, 50, -100, 19900, 19950},
        };
        for (int[] row : due) {
            Talk x = new Talk().say(3, row[0], row[1], 0, -1).say(1, 7000, 9, 0, -1);
            x.shift(3, row[2]);
            String name = "at " + row[0] + " by " + row[2];
            int turn = row[3] < 7000 ? 0 : 1;
            Check.due(name + ": start", x.ofWord(0, 1), row[3]);
            Check.due(name + ": end", x.ofWord(0, 2), row[4]);
            Check.due(name + ": start of the turn", x.ofTurn(turn, 1), row[3]);
            Check.due(name + ": end of the turn", x.ofTurn(turn, 2), row[4]);
            Check.due(name + ": start of another", x.ofWord(1, 1), 7000);
            Check.due(name + ": talk", x.said(3), row[1]);
        }
        Talk x = new Talk().say(0, 10, 5, 0, -1).say(0, 40, 5, 0, -1);
        x.shift(0, 30);
        Check.due("shared on the channel, free by the shift", x.fits(0, 10, 5), false);
        Check.due("free on the channel, shared by the shift", x.fits(0, 70, 5), true);
        Check.due("off does not change", x.ofTurn(1, 7), 25);
    }

    /** "A SPEAKER who WITHDRAWS is taken out: its WORDS do not count any more (their numbers stay), and no new". */
    private static void theWithdrawnDoNotCount() {
        Talk x = new Talk().say(1, 0, 5, 5, 2).say(2, 10, 5, 0, -1).say(1, 30, 5, 0, -1);
        Check.due("two count no more", x.withdraw(1), 2);
        int[][] due = {{0, 0, -1, 0}, {1, 1, 0, 1}, {2, 0, -1, 0}};
        for (int[] row : due) {
            Check.due("counts: " + row[0], x.ofWord(row[0], 5), row[1]);
            Check.due("turn of: " + row[0], x.ofWord(row[0], 6), row[2]);
            Check.due("stretch of: " + row[0], x.ofWord(row[0], 7), row[3]);
        }
        Check.due("its kind stays", x.ofWord(0, 3), 5);
        Check.due("its look stays", x.ofWord(0, 4), 2);
        Check.due("its start stays", x.ofWord(2, 1), 30);
        Check.due("its end stays", x.ofWord(2, 2), 35);
        Check.due("none fits", x.fits(1, 500, 5), false);
        Check.refuses("a new one", x, STATE, () -> x.word(1, 500, 5, 0, -1));
        Check.refuses("withdrawn again", x, STATE, () -> x.withdraw(1));
        Check.due("one without words", x.withdraw(4), 0);
        Check.due("the next number", x.word(2, 500, 5, 0, -1), 3);
    }

    // ---- 2. Stretches, turns, signs

    private static void stretches() {
        restsAreTo30();
        stretchesEndBehindRest();
        stretchesAreAsLongAsCanBe();
        turnsAreNumberedByStart();
    }

    /** "no more than REST (10 at first)"; REST is 1 to 30. */
    private static void restsAreTo30() {
        Talk x = new Talk();
        Check.due("rest at first", x.talk(20), 10);
        Check.due("the smallest", x.rest(1), 10);
        Check.due("the largest", x.rest(30), 1);
        Check.refuses("rest 0", x, ARGUMENT, () -> x.rest(0));
        Check.refuses("rest 31", x, ARGUMENT, () -> x.rest(31));
        Check.due("a refused rest is not told", x.rest(10), 30);
        Talk first = new Talk().say(0, 0, 5, 0, -1).say(0, 15, 5, 0, -1).say(0, 31, 5, 0, -1);
        Check.due("10 behind at first", first.ofWord(0, 7), 2);
        Check.due("11 behind at first", first.ofWord(2, 7), 1);
    }

    /** "each but the first one has a START no more than REST behind the END of the one ahead". */
    private static void stretchesEndBehindRest() {
        for (int rest = 1; rest <= 30; rest++) {
            for (int behind : new int[] {0, 1, rest, rest + 1}) {
                Talk x = new Talk().say(2, 100, 5, 0, -1).say(2, 105 + behind, 5, 0, -1);
                x.rest(rest);
                x.shift(2, -rest);
                int due = behind <= rest ? 1 : 2;
                Check.due(behind + " behind by rest " + rest, x.talk(2), due);
                Check.due(behind + " behind by rest " + rest + ": turns", x.talk(3), due);
                Check.due(behind + " behind by rest " + rest + ": words", x.ofWord(1, 7), 3 - due);
            }
        }
    }

    /** "of WORDS of one SPEAKER that count, by START, as many as can be [..] (whatever others say between)." */
    private static void stretchesAreAsLongAsCanBe() {
        Talk x = new Talk().say(0, 45, 5, 0, -1).say(0, 15, 5, 2, -1).say(0, 30, 5, 1, -1).say(0, 0, 5, 5, -1);
        x.say(1, 6, 3, 0, -1).say(1, 12, 2, 0, -1).say(1, 36, 2, 0, -1).say(2, 22, 3, 5, -1);
        Check.due("of four words", x.ofTurn(0, 3), 4);
        Check.due("the first one by start", x.ofTurn(0, 4), 3);
        Check.due("its start", x.ofTurn(0, 1), 0);
        Check.due("its end", x.ofTurn(0, 2), 50);
        Check.due("all of one stretch", x.ofWord(0, 7), 4);
        Check.due("row", x.row(0), "0 A: ?___-___.___o]");
        x.withdraw(1);
        x.withdraw(2);
        Check.due("whatever others say", x.row(0), "0 A: ?___-___.___o");
    }

    /** "All others are TURNS, numbered from 0 by START, of several by the SPEAKER." */
    private static void turnsAreNumberedByStart() {
        Talk x = new Talk();
        for (int speaker = 4; speaker >= 0; speaker--) {
            x.word(speaker, 100, 5 + speaker, 0, -1);
        }
        for (int turn = 0; turn <= 4; turn++) {
            Check.due("the same start: " + turn, x.ofTurn(turn, 0), turn);
        }
        x.shift(4, -1);
        Check.due("1 earlier is the first", x.ofTurn(0, 0), 4);
        Check.due("the others behind it", x.ofTurn(1, 0), 0);
        x.shift(0, 1);
        Check.due("1 later is the last", x.ofTurn(4, 0), 0);
        x.shift(4, -100);
        x.shift(3, -99);
        Check.due("start 0 is the first", x.ofTurn(0, 1), 0);
        Check.due("start 1 is the second", x.ofTurn(1, 1), 1);
    }

    private static void signsAndAir() {
        signsAreOfTwoWords();
        signsAreOfKinds();
        signsAreOfThreeWordsElsewhere();
        signsLieWithin();
        airIsLaughsAndBreaths();
    }

    /** A talks from 100 to 130, in so many WORDS that are 10 long, or 15 of two. */
    private static Talk host(int words) {
        Talk x = new Talk();
        for (int word = 0; word < words; word++) {
            x.say(0, 100 + word * 30 / words, 30 / words, 0, -1);
        }
        return x;
    }

    private static void dueSorts(String name, Talk x, int turns, int signs, int air) {
        Check.due(name + ": stretches", x.talk(2), turns + signs + air);
        Check.due(name + ": turns", x.talk(3), turns);
        Check.due(name + ": signs", x.talk(4), signs);
        Check.due(name + ": air", x.talk(5), air);
    }

    /** "A STRETCH is a SIGN, if it has 2 WORDS or fewer". */
    private static void signsAreOfTwoWords() {
        dueSorts("1 word", host(3).say(1, 105, 2, 0, -1), 1, 1, 0);
        dueSorts("2 words", host(3).say(1, 105, 2, 0, -1).say(1, 107, 2, 0, -1), 1, 1, 0);
        dueSorts("3 words", host(3).say(1, 105, 2, 0, -1).say(1, 107, 2, 0, -1).say(1, 109, 2, 0, -1), 2, 0, 0);
    }

    /** "none of them of KIND 5 or 6". */
    private static void signsAreOfKinds() {
        for (int kind = 0; kind <= 6; kind++) {
            int turns = kind >= 5 ? 2 : 1;
            int signs = kind >= 5 ? 0 : 1;
            dueSorts("kind " + kind, host(3).say(1, 105, 2, kind, -1), turns, signs, 0);
            dueSorts("kind " + kind + " first", host(3).say(1, 105, 2, kind, -1).say(1, 107, 2, 0, -1), turns, signs, 0);
            dueSorts("kind " + kind + " last", host(3).say(1, 105, 2, 0, -1).say(1, 107, 2, kind, -1), turns, signs, 0);
        }
    }

    /** "and another STRETCH of 3 WORDS or more of another SPEAKER". */
    private static void signsAreOfThreeWordsElsewhere() {
        int[] due = {0, 0, 0, 1, 0, 1, 1}; // by how many WORDS A has
        for (int words : new int[] {1, 2, 3, 5, 6}) {
            Talk x = host(words).say(4, 105, 2, 0, -1);
            dueSorts("within " + words, x, 2 - due[words], due[words], 0);
            Check.due("within " + words + ": its turn", x.ofWord(words, 6), due[words] == 1 ? -1 : 1);
        }
        dueSorts("within nothing", new Talk().say(4, 105, 2, 0, -1), 1, 0, 0);
        Talk apart = new Talk().say(0, 100, 5, 0, -1).say(0, 110, 5, 0, -1).say(0, 126, 5, 0, -1).say(1, 112, 2, 0, -1);
        dueSorts("within 3 words of two stretches", apart, 3, 0, 0);
        apart.rest(11);
        dueSorts("within 3 words of one stretch", apart, 1, 1, 0);
        apart.withdraw(0);
        dueSorts("within words that do not count", apart, 1, 0, 0);
    }

    /** "has a START no later and an END no earlier than it." */
    private static void signsLieWithin() {
        int[][] due = { // START and length of B, whether it is a SIGN
            {100, 30, 1}, {99, 30, 0}, {99, 31, 0}, {99, 5, 0}, {100, 31, 0}, {101, 30, 0}, {100, 1, 1}, {129, 1, 1},
            {129, 2, 0}, {128, 2, 1}, {130, 1, 0}, {98, 2, 0}, {95, 40, 0},
        };
        for (int[] row : due) {
            String name = "from " + row[0] + " for " + row[1];
            dueSorts(name, host(3).say(1, row[0], row[1], 0, -1), 2 - row[2], row[2], 0);
            Talk moved = host(3).say(1, row[0] + 60, row[1], 0, -1);
            dueSorts(name + ", 60 later", moved, 2, 0, 0);
            moved.shift(1, -60);
            dueSorts(name + ", by a shift", moved, 2 - row[2], row[2], 0);
            moved.shift(0, -60);
            dueSorts(name + ", the other shifted, too", moved, 2, 0, 0);
        }
    }

    /** "One that has nothing but laughs and breaths, and is no SIGN, is AIR. All others are TURNS". */
    private static void airIsLaughsAndBreaths() {
        for (int kind = 0; kind <= 6; kind++) {
            int air = kind == 3 || kind == 4 ? 1 : 0;
            dueSorts("kind " + kind + " alone", new Talk().say(2, 0, 5, kind, -1), 1 - air, 0, air);
            Talk behind = new Talk().say(2, 0, 5, 3, -1).say(2, 6, 5, 4, -1).say(2, 12, 5, kind, -1);
            dueSorts("kind " + kind + " behind a laugh and a breath", behind, 1 - air, 0, air);
            Talk ahead = new Talk().say(2, 0, 5, kind, -1).say(2, 6, 5, 4, -1).say(2, 12, 5, 3, -1);
            dueSorts("kind " + kind + " ahead of a breath and a laugh", ahead, 1 - air, 0, air);
        }
        dueSorts("a laugh within", host(3).say(1, 105, 2, 3, -1), 1, 1, 0);
        dueSorts("a laugh and a breath within", host(3).say(1, 105, 2, 3, -1).say(1, 107, 2, 4, -1), 1, 1, 0);
        dueSorts("a laugh half within", host(3).say(1, 129, 2, 3, -1), 1, 0, 1);
        dueSorts("3 laughs within", host(3).say(1, 105, 2, 3, -1).say(1, 107, 2, 3, -1).say(1, 109, 2, 3, -1), 1, 0, 1);
        Talk wide = new Talk().say(0, 100, 10, 3, -1).say(0, 110, 10, 3, -1).say(0, 120, 10, 4, -1).say(1, 105, 2, 0, -1);
        dueSorts("within 3 laughs: of what KINDS they are is not asked", wide, 0, 1, 1);
    }

    // ---- 3. From turn to turn

    private static void fromTurnToTurn() {
        offIsLessTheEndAhead();
        overlapsLastToTheSmallerEnd();
        nextIsTheLastLook();
        theFirstThatHoldsIsHowItCame();
        pointsAreNearWithin3();
        onlyOverlapsInterrupt();
        excusesAreLaughsAndWhats();
    }

    /** "0 a PAUSE, if both have one SPEAKER; otherwise 1 a LATCH with OFF of 0 or 1; 2 a GAP with more; 3 an OVERLAP". */
    private static void offIsLessTheEndAhead() {
        int[][] due = {{-9, 3}, {-2, 3}, {-1, 3}, {0, 1}, {1, 1}, {2, 2}, {3, 2}, {500, 2}};
        for (int[] row : due) {
            Talk x = new Talk().say(1, 100, 10, 0, -1).say(3, 110 + row[0], 20, 0, -1);
            Check.due("off", x.ofTurn(1, 7), row[0]);
            Check.due("what off " + row[0] + " is", x.ofTurn(1, 8), row[1]);
            for (int what = 0; what <= 3; what++) {
                Check.due("how many are " + what + " by " + row[0], x.talk(6 + what), what == row[1] ? 1 : 0);
            }
            Check.due("off of the first", x.ofTurn(0, 7), 0);
            Check.due("the first is none of them", x.ofTurn(0, 8), -1);
        }
        for (int rest : new int[] {1, 10, 30}) {
            Talk x = new Talk().say(1, 100, 10, 0, -1).say(1, 111 + rest, 20, 0, -1);
            x.rest(rest);
            Check.due("off of a pause", x.ofTurn(1, 7), rest + 1);
            Check.due("a pause", x.ofTurn(1, 8), 0);
            Check.due("one pause", x.talk(6), 1);
            Check.due("a pause is no gap", x.talk(8), 0);
        }
    }

    /** "3 an OVERLAP with OFF below 0; that lasts for the smaller one of both ENDS less its START." */
    private static void overlapsLastToTheSmallerEnd() {
        int[][] due = { // START and length of the second, how long the OVERLAP lasts; the one ahead is from 100 to 120
            {119, 1, 1}, {119, 30, 1}, {110, 9, 9}, {110, 10, 10}, {110, 11, 10}, {100, 20, 20}, {100, 1, 1},
            {120, 5, 0}, {121, 5, 0}, {122, 5, 0},
        };
        for (int[] row : due) {
            Talk x = new Talk().say(0, 100, 20, 0, -1).say(2, row[0], row[1], 0, -1);
            Check.due("lasts from " + row[0] + " for " + row[1], x.ofTurn(1, 9), row[2]);
            Check.due("the first has none", x.ofTurn(0, 9), 0);
            x.shift(0, -100);
            x.shift(2, -100);
            Check.due("below 0 it lasts as long", x.ofTurn(1, 9), row[2]);
        }
    }

    /** "NEXT of a TURN: the LOOK of its last WORD that has one; NONE without any." */
    private static void nextIsTheLastLook() {
        int[][] due = {{-1, -1, -1, -1}, {2, -1, -1, 2}, {-1, 0, -1, 0}, {-1, -1, 4, 4}, {2, 3, -1, 3}, {2, -1, 0, 0},
            {0, 4, 3, 3}};
        for (int[] row : due) {
            Talk x = new Talk().say(1, 20, 5, 0, row[2]).say(1, 0, 5, 0, row[0]).say(1, 10, 5, 0, row[1]);
            Check.due("next of " + row[0] + " " + row[1] + " " + row[2], x.ofTurn(0, 5), row[3]);
        }
    }

    /** "0 CHOSEN [..] 1 GOING ON [..] 2 TAKEN, if NEXT of that is NONE; 3 AGAINST it otherwise. (The first [..])" */
    private static void theFirstThatHoldsIsHowItCame() {
        for (int look = -1; look <= 4; look++) {
            for (int speaker = 0; speaker <= 4 && look != 2; speaker++) {
                int due = look == speaker ? 0 : speaker == 2 ? 1 : look == -1 ? 2 : 3;
                Talk x = new Talk().say(2, 100, 10, 0, look);
                Check.due("would come", x.wouldCome(speaker), due);
                x.say(speaker, 140, 5, 0, -1);
                Check.due("look at " + look + ", then " + speaker, x.ofTurn(1, 10), due);
                Check.due("how the first came", x.ofTurn(0, 10), -1);
                Check.due("against it", x.talk(12), due == 3 ? 1 : 0);
            }
        }
    }

    /** "no POINT of the one ahead has an END of START - 3 to START + 3 of it". */
    private static void pointsAreNearWithin3() {
        for (int kind = 0; kind <= 6; kind++) {
            for (int behind = -5; behind <= 5; behind++) {
                boolean isNear = (kind == 1 || kind >= 5) && behind >= -3 && behind <= 3;
                for (int place = 0; place <= 2; place++) {
                    Talk x = new Talk();
                    for (int word = 0; word <= 2; word++) {
                        x.say(0, 100 + word * 10, 10, word == place ? kind : 0, -1);
                    }
                    x.say(1, 110 + place * 10 - behind, 50, 0, -1);
                    boolean isOverlap = 110 + place * 10 - behind < 130;
                    String name = "end of kind " + kind + " at " + place + ", " + behind + " behind the start";
                    Check.due(name, x.ofTurn(1, 11), isOverlap && !isNear ? 1 : 0);
                    Check.due(name + ": how many", x.talk(10), isOverlap && !isNear ? 1 : 0);
                }
            }
        }
    }

    /** "It INTERRUPTS, if it is an OVERLAP"; the first TURN is none. */
    private static void onlyOverlapsInterrupt() {
        int[] due = {1, 1, 0, 0, 0};
        for (int off = -2; off <= 2; off++) {
            Talk x = new Talk().say(0, 100, 10, 0, -1).say(1, 110 + off, 50, 0, -1);
            Check.due("interrupts by off " + off, x.ofTurn(1, 11), due[off + 2]);
            Check.due("the first does not", x.ofTurn(0, 11), 0);
        }
        Talk two = new Talk().say(0, 100, 50, 0, -1).say(1, 110, 10, 0, -1).say(2, 125, 50, 0, -1);
        Check.due("an overlap with another than the one ahead", two.ofTurn(2, 11), 0);
    }

    /** "It is EXCUSED, if its first WORD is of KIND 3 or 6, and it INTERRUPTS or is AGAINST it (or both)." */
    private static void excusesAreLaughsAndWhats() {
        for (int kind = 0; kind <= 6; kind++) {
            for (int start : new int[] {115, 140}) {
                for (int look = -1; look <= 2; look++) {
                    if (look == 0) {
                        continue;
                    }
                    Talk x = new Talk().say(0, 100, 30, 0, look).say(1, start, 5, kind, -1).say(1, start + 5, 40, 0, -1);
                    boolean isExcused = (kind == 3 || kind == 6) && (start == 115 || look == 2);
                    String name = "kind " + kind + " at " + start + ", look at " + look;
                    Check.due("excused by " + name, x.ofTurn(1, 12), isExcused ? 1 : 0);
                    Check.due("how many by " + name, x.talk(11), isExcused ? 1 : 0);
                    Talk second = new Talk().say(0, 100, 30, 0, look).say(1, start, 5, 0, -1).say(1, start + 5, 40, kind, -1);
                    Check.due("by its second word " + name, second.ofTurn(1, 12), 0);
                }
            }
        }
    }

    // ---- 4. Pairs

    private static void pairs() {
        asksByItsLastWord();
        answersWithin50();
        answersArePlainWithin7();
        answersAreByOthers();
        oneQuestionIsLookedAt();
        insertsAsk();
    }

    /** "A TURN ASKS, if its last WORD is of KIND 5 or 6." */
    private static void asksByItsLastWord() {
        for (int kind = 0; kind <= 6; kind++) {
            int due = kind >= 5 ? 1 : 0;
            Talk last = new Talk().say(0, 0, 5, 0, -1).say(0, 5, 5, kind, -1);
            Check.due("asks by a last word of " + kind, last.ofTurn(0, 6), due);
            Check.due("how many ask", last.talk(13), due);
            Check.due("unanswered", last.talk(14), due);
            Talk first = new Talk().say(0, 0, 5, kind, -1).say(0, 5, 5, 0, -1);
            Check.due("asks by a first word of " + kind, first.ofTurn(0, 6), 0);
        }
    }

    /** "more than 50 behind the END of the question, that is taken off all the same, but nothing ANSWERS it." */
    private static void answersWithin50() {
        for (int behind : new int[] {-9, 0, 49, 50, 51, 52, 400}) {
            boolean isAnswered = behind <= 50;
            Talk x = new Talk().say(0, 0, 10, 5, -1).say(1, 10 + behind, 12, 0, -1).say(2, 500, 5, 0, -1);
            Check.due("answer " + behind + " behind", x.ofQuestion(0, 0), isAnswered ? 1 : -1);
            Check.due("how", x.ofQuestion(0, 1) >= 0, isAnswered);
            Check.due("what it answers", x.ofTurn(1, 13), isAnswered ? 0 : -1);
            Check.due("unanswered", x.talk(14), isAnswered ? 0 : 1);
            Talk then = new Talk().say(0, 0, 10, 5, -1).say(1, 10 + behind, 12, 0, -1).say(2, 10 + behind, 12, 0, -1);
            Check.due("taken off all the same", then.ofTurn(2, 13), -1);
            // D asks E, and A asks: E starts 50 behind the END of D as B starts 51 behind that of A.
            Talk below = new Talk().say(3, 400, 40, 5, 4).say(0, 410, 10, 5, -1).say(1, 420 + Math.max(0, behind), 12, 0, -1);
            below.say(4, 439 + Math.max(0, behind), 12, 0, -1);
            Check.due("the one below it, by another " + behind + " behind", below.ofTurn(3, 13), behind <= 51 ? 0 : -1);
        }
    }

    /** "An ANSWER is PLAIN, if its START is no more than 7 behind the END of the question, otherwise PUT OFF." */
    private static void answersArePlainWithin7() {
        int[][] due = {{-9, 0}, {-1, 0}, {0, 0}, {6, 0}, {7, 0}, {8, 1}, {9, 1}, {50, 1}, {51, -1}};
        for (int[] row : due) {
            Talk x = new Talk().say(0, 100, 10, 6, -1).say(1, 110 + row[0], 12, 0, -1);
            Check.due("answer " + row[0] + " behind", x.ofQuestion(0, 1), row[1]);
            Check.due("of one that does not ask", x.ofQuestion(1, 1), -1);
            x.shift(0, -50);
            x.shift(1, -50);
            Check.due("both shifted", x.ofQuestion(0, 1), row[1]);
        }
    }

    /** "the TURN has another SPEAKER than the question on top of it, and NEXT of the question is NONE or the SPEAKER". */
    private static void answersAreByOthers() {
        for (int look = -1; look <= 4; look++) {
            for (int speaker = 0; speaker <= 4 && look != 3; speaker++) {
                boolean isAnswer = speaker != 3 && (look == -1 || look == speaker);
                Talk x = new Talk().say(3, 0, 5, 5, look).say(speaker, 20, 5, 0, -1);
                Check.due("look at " + look + ", answer of " + speaker, x.ofQuestion(0, 0), isAnswer ? 1 : -1);
                for (int kind = 5; kind <= 6; kind++) {
                    Talk asking = new Talk().say(3, 0, 5, 5, look).say(speaker, 20, 5, kind, -1);
                    Check.due("one that asks itself does not answer", asking.ofQuestion(0, 0), -1);
                }
            }
        }
    }

    /** "it ANSWERS that question, which is taken off (no other one is looked at). Then, if it ASKS, it goes on top." */
    private static void oneQuestionIsLookedAt() {
        Talk x = new Talk();
        x.rest(1);
        x.say(0, 0, 5, 5, -1).say(1, 6, 5, 5, 2).say(3, 12, 5, 0, -1).say(2, 18, 5, 0, -1).say(4, 24, 5, 0, -1);
        int[] due = {-1, -1, -1, 1, 0};
        for (int turn = 0; turn <= 4; turn++) {
            Check.due("which turn " + turn + " answers", x.ofTurn(turn, 13), due[turn]);
        }
        Talk twice = new Talk().say(0, 0, 5, 5, -1).say(1, 6, 5, 0, -1).say(2, 12, 5, 0, -1);
        Check.due("the second answers nothing", twice.ofTurn(2, 13), -1);
        Talk nothing = new Talk().say(1, 6, 5, 0, -1).say(2, 12, 5, 0, -1);
        Check.due("nothing to answer", nothing.ofTurn(1, 13), -1);
        Talk last = new Talk().say(1, 6, 5, 0, -1).say(2, 12, 5, 5, -1);
        Check.due("nobody behind it", last.ofQuestion(1, 0), -1);
    }

    /** "INSERTS of a question: how many TURNS between it and its ANSWER ASK (0 without one)." */
    private static void insertsAsk() {
        for (int many = 0; many <= 3; many++) {
            Talk x = new Talk().say(4, 0, 1, 5, 3);
            for (int turn = 0; turn < many; turn++) {
                x.say(turn, 2 + turn, 1, 5, -1);
            }
            Check.due(many + " behind it, none answered", x.ofQuestion(0, 2), 0);
            for (int turn = 0; turn < many; turn++) {
                x.say((many - turn) % 3, 20 + turn, 1, 0, -1);
            }
            Check.due(many + " behind it, all others answered", x.ofQuestion(0, 2), 0);
            x.say(3, 51, 5, 0, -1);
            Check.due(many + " between, the answer in time", x.ofQuestion(0, 2), many);
            Check.due(many + " between, which turn", x.ofQuestion(0, 0), 2 * many + 1);
            Check.due(many + " between, none unanswered", x.talk(14), 0);
            x.shift(3, 1);
            Check.due(many + " between, the answer too late", x.ofQuestion(0, 2), 0);
            Check.due(many + " between, one unanswered", x.talk(14), 1);
        }
    }

    // ---- 5. Repairs

    private static void repairs() {
        aCutOffIsFollowed();
        othersAskWhat();
    }

    /** "each WORD of KIND 2 that is followed by another WORD in its STRETCH (SELF), whatever that STRETCH is". */
    private static void aCutOffIsFollowed() {
        for (int kind = 0; kind <= 6; kind++) {
            boolean isDone = kind == 0 || kind == 1 || kind == 5;
            dueSelf("followed by " + kind, new Talk().say(1, 0, 5, 2, -1).say(1, 15, 5, kind, -1), 1, isDone ? 1 : 0);
            dueSelf("behind " + kind, new Talk().say(1, 0, 5, kind, -1).say(1, 15, 5, 2, -1), kind == 2 ? 1 : 0, 0);
            dueSelf("apart from " + kind, new Talk().say(1, 0, 5, 2, -1).say(1, 16, 5, kind, -1), 0, 0);
            Talk far = new Talk().say(1, 0, 5, 2, -1).say(1, 5, 5, 4, -1).say(1, 10, 5, 3, -1).say(1, 15, 5, kind, -1);
            dueSelf("followed by breath, laugh and " + kind, far, 1, isDone ? 1 : 0);
            Talk sign = host(3).say(1, 105, 2, 2, -1).say(1, 107, 2, kind, -1);
            dueSelf("in what is a sign, or not, with " + kind, sign, 1, isDone ? 1 : 0);
        }
        dueSelf("alone", new Talk().say(1, 0, 5, 2, -1), 0, 0);
        dueSelf("another speaks on", new Talk().say(1, 0, 5, 2, -1).say(2, 5, 5, 0, -1), 0, 0);
    }

    private static void dueSelf(String name, Talk x, int many, int done) {
        Check.due("cut off " + name, x.talk(15), many);
        Check.due("cut off " + name + ", done", x.talk(16), done);
    }

    /** "its trouble is in the last TURN ahead of it by another SPEAKER; NONE without one. [..] the TURN behind it". */
    private static void othersAskWhat() {
        for (int kind = 0; kind <= 6; kind++) {
            int due = kind == 6 ? 1 : 0;
            dueOther("kind " + kind, new Talk().say(0, 0, 5, 0, -1).say(1, 20, 5, kind, -1).say(0, 40, 5, 0, -1), due, due);
            Talk last = new Talk().say(0, 0, 5, 0, -1).say(1, 20, 5, 0, -1).say(1, 26, 5, kind, -1).say(0, 40, 5, 0, -1);
            dueOther("last word of " + kind, last, due, due);
            Talk first = new Talk().say(0, 0, 5, 0, -1).say(1, 20, 5, kind, -1).say(1, 26, 5, 0, -1).say(0, 40, 5, 0, -1);
            dueOther("first word of " + kind, first, 0, 0);
        }
        dueOther("no trouble", new Talk().say(1, 20, 5, 6, -1).say(0, 40, 5, 0, -1), 1, 0);
        dueOther("one's own talk ahead only", new Talk().say(1, 0, 5, 0, -1).say(1, 20, 5, 6, -1).say(1, 40, 5, 0, -1), 1, 0);
        dueOther("nobody behind", new Talk().say(0, 0, 5, 0, -1).say(1, 20, 5, 6, -1), 1, 0);
        dueOther("another behind", new Talk().say(0, 0, 5, 0, -1).say(1, 20, 5, 6, -1).say(2, 40, 5, 0, -1), 1, 0);
        dueOther("oneself behind", new Talk().say(0, 0, 5, 0, -1).say(1, 20, 5, 6, -1).say(1, 40, 5, 0, -1), 1, 0);
        Talk own = new Talk().say(0, 0, 5, 0, -1).say(1, 20, 5, 0, -1).say(1, 40, 5, 6, -1).say(0, 60, 5, 0, -1);
        dueOther("one's own turn between", own, 1, 1);
        Talk later = new Talk().say(0, 0, 5, 0, -1).say(2, 20, 5, 0, -1).say(1, 40, 5, 6, -1).say(0, 60, 5, 0, -1);
        dueOther("the last one by another", later, 1, 0);
        later.withdraw(2);
        dueOther("the last one by another that counts", later, 1, 1);
    }

    private static void dueOther(String name, Talk x, int many, int done) {
        Check.due("what, " + name, x.talk(17), many);
        Check.due("what, " + name + ", done", x.talk(18), done);
    }

    // ---- 6. Numbers

    private static void numbers() {
        fromOneToAnother();
        talkIsOfKinds();
        theFloorIsAPart();
        smoothIsMinus2To4();
        shuffledIsTwoAhead();
    }

    /** "TURNS of b of which the one ahead is of a: how many, the sum of OFF, how many of them are OVERLAPS." */
    private static void fromOneToAnother() {
        for (int off = -3; off <= 3; off++) {
            Talk x = new Talk().say(3, 100, 10, 0, -1).say(1, 110 + off, 20, 0, -1);
            int[] due = {1, off, off < 0 ? 1 : 0};
            for (int what = 0; what <= 2; what++) {
                Check.due("from 3 to 1 by " + off + ": " + what, x.between(3, 1, what), due[what]);
                Check.due("from 1 to 3", x.between(1, 3, what), 0);
                Check.due("from 3 to another", x.between(3, 2, what), 0);
                Check.due("from another to 1", x.between(0, 1, what), 0);
            }
            Check.due("mean by " + off, x.mean(3, 1), (double) off);
            Check.due("mean of none", x.mean(1, 3), 0.0);
        }
        Talk half = new Talk().say(0, 100, 10, 0, -1).say(1, 108, 10, 0, -1).say(0, 130, 10, 0, -1).say(1, 139, 10, 0, -1);
        Check.due("a mean is not cut to a whole number", half.mean(0, 1), -1.5);
    }

    /** "the sum of END less START of all its WORDS of KIND 0, 1, 2, 5, 6 that count." */
    private static void talkIsOfKinds() {
        for (int kind = 0; kind <= 6; kind++) {
            int due = kind == 3 || kind == 4 ? 0 : 1;
            Talk x = new Talk().say(2, 0, 1, kind, -1);
            Check.due("talk of kind " + kind + " for 1", x.said(2), due);
            x.say(2, 100, 50, kind, -1);
            Check.due("talk of kind " + kind + " for 1 and 50", x.said(2), due * 51);
            Check.due("talk of another", x.said(3), 0);
            x.withdraw(2);
            Check.due("talk that does not count", x.said(2), 0);
        }
        Talk sign = host(3).say(1, 105, 2, 0, -1);
        Check.due("talk in a sign", sign.said(1), 2);
    }

    /** "FLOOR: the part of that in TALK of all, as a double (0.0, if nobody talks)." */
    private static void theFloorIsAPart() {
        Talk x = new Talk().say(0, 0, 50, 3, -1).say(1, 0, 50, 4, -1);
        for (int speaker = 0; speaker <= 4; speaker++) {
            Check.due("nobody talks", x.floor(speaker), 0.0);
        }
        x.say(1, 50, 1, 0, -1);
        Check.due("one talks for 1", x.floor(1), 1.0);
        Check.due("the other one laughs", x.floor(0), 0.0);
        x.say(0, 50, 2, 0, -1);
        Check.due("two talk", x.floor(1), 1.0 / 3.0);
        Check.due("the other one of two", x.floor(0), 2.0 / 3.0);
        x.withdraw(0);
        Check.due("one of them counts", x.floor(1), 1.0);
        x.withdraw(1);
        Check.due("nobody talks any more", x.floor(1), 0.0);
    }

    /** "TEST: of all TURNS with another SPEAKER than the one ahead, how many have an OFF of -2 to 4." */
    private static void smoothIsMinus2To4() {
        for (int off = -5; off <= 7; off++) {
            Talk x = new Talk().say(0, 100, 10, 0, -1).say(4, 110 + off, 20, 0, -1);
            Check.due("test by " + off, x.test(false), off >= -2 && off <= 4 ? 1 : 0);
            Check.due("shuffled by " + off + ": two turns", x.test(true), 0);
        }
        for (int off = 2; off <= 5; off++) {
            Talk x = new Talk().say(0, 100, 10, 0, -1).say(0, 110 + off, 20, 0, -1);
            x.rest(1);
            Check.due("test of one speaker by " + off, x.test(false), 0);
        }
        Check.due("test of the first turn", new Talk().say(0, 2, 10, 0, -1).test(false), 0);
    }

    /** "of all TURNS but the first two, with another SPEAKER than the TURN two ahead, [..] a START less the END". */
    private static void shuffledIsTwoAhead() {
        for (int off = -5; off <= 7; off++) {
            int due = off >= -2 && off <= 4 ? 1 : 0;
            Talk x = new Talk().say(0, 100, 10, 0, -1).say(1, 104, 30, 0, -1).say(2, 110 + off, 40, 0, -1);
            Check.due("shuffled by " + off, x.test(true), due);
        }
        for (int off = 2; off <= 4; off++) {
            Talk same = new Talk().say(0, 100, 10, 0, -1).say(1, 104, 30, 0, -1).say(0, 110 + off, 40, 0, -1);
            same.rest(1);
            Check.due("shuffled with the speaker two ahead by " + off, same.test(true), 0);
        }
        Talk ahead = new Talk().say(0, 100, 10, 0, -1).say(1, 104, 5, 0, -1).say(1, 111, 9, 0, -1);
        ahead.rest(1);
        Check.due("shuffled with the speaker one ahead", ahead.test(true), 1);
    }

    // ---- 7. Coders, citations

    private static void codersAndCitations() {
        codersAreTwoAndCodesFive();
        agreementWithoutChance();
        citesAreAtMost20();
        citesTellWhereTheWordIs();
        everyCallIsRefused();
    }

    /** "Two CODERS (0, 1) give a TURN a CODE (0 to 4), told for the first WORD of the TURN". */
    private static void codersAreTwoAndCodesFive() {
        for (int one = 0; one <= 1; one++) {
            int coder = one;
            Talk x = new Talk().say(0, 10, 5, 0, -1).say(0, 20, 5, 0, -1);
            Check.due("no code", x.ofTurn(0, 14 + coder), -1);
            Check.due("the first code", x.code(coder, 0, 0), -1);
            for (int code = 1; code <= 4; code++) {
                Check.due("code " + code, x.code(coder, 0, code), code - 1);
                Check.due("kept", x.ofTurn(0, 14 + coder), code);
                Check.due("not by the other one", x.ofTurn(0, 15 - coder), -1);
            }
            Check.refuses("code -1", x, ARGUMENT, () -> x.code(coder, 0, -1));
            Check.refuses("code 5", x, ARGUMENT, () -> x.code(coder, 0, 5));
            x.say(0, 0, 5, 0, -1);
            Check.due("the first word is another one now", x.ofTurn(0, 14 + coder), -1);
            x.rest(5);
            Check.due("a rest that leaves it so", x.ofTurn(0, 14 + coder), -1);
            x.rest(4);
            Check.due("a word keeps its code", x.ofTurn(1, 14 + coder), 4);
        }
        Talk x = new Talk().say(0, 10, 5, 0, -1);
        Check.refuses("coder -1", x, INDEX, () -> x.code(-1, 0, 0));
        Check.refuses("coder 2", x, INDEX, () -> x.code(2, 0, 0));
    }

    /** "(n * SAME - CHANCE) / (n * n - CHANCE), as a double; 1.0, if n * n is CHANCE (also without any)." */
    private static void agreementWithoutChance() {
        dueAgreement("nothing coded", 1.0, new int[][] {{-1, -1}});
        dueAgreement("by coder 0 alone", 1.0, new int[][] {{3, -1}, {2, -1}});
        dueAgreement("by coder 1 alone", 1.0, new int[][] {{-1, 3}, {-1, 2}});
        dueAgreement("each of another turn", 1.0, new int[][] {{-1, 3}, {3, -1}});
        for (int code = 0; code <= 4; code++) {
            dueAgreement("all of code " + code, 1.0, new int[][] {{code, code}, {code, code}});
        }
        dueAgreement("one turn of two codes", 0.0, new int[][] {{0, 4}});
        dueAgreement("all another", 0.0, new int[][] {{0, 1}, {0, 1}});
        dueAgreement("as by chance", 0.0, new int[][] {{0, 0}, {0, 1}, {1, 0}, {1, 1}});
        dueAgreement("worse than by chance", -1.0, new int[][] {{0, 4}, {4, 0}});
        dueAgreement("a third below", -2.0 / 7.0, new int[][] {{1, 2}, {2, 1}, {0, 3}});
        dueAgreement("better than by chance", 0.5, new int[][] {{2, 2}, {2, 2}, {3, 2}, {3, 3}});
    }

    private static void dueAgreement(String name, double due, int[][] codes) {
        Talk x = new Talk();
        for (int turn = 0; turn < codes.length; turn++) {
            x.say(turn, turn * 100, 5, 0, -1);
            for (int coder = 0; coder <= 1; coder++) {
                if (codes[turn][coder] >= 0) {
                    x.code(coder, turn, codes[turn][coder]);
                }
            }
        }
        Check.due("agreement, " + name, x.agreement(), due);
    }

    /** "CITES: at most 20, numbered from 0". */
    private static void citesAreAtMost20() {
        Talk x = new Talk().say(0, 0, 5, 0, -1).say(1, 20, 5, 0, -1);
        Check.refuses("cite 0", x, INDEX, () -> x.cited(0));
        for (int cite = 0; cite < 20; cite++) {
            Check.due("cite " + cite, x.cite(cite % 2), cite);
            Check.due("cited " + cite, x.cited(cite), cite % 2);
            Check.due("cites", x.talk(19), cite + 1);
            int behind = cite + 1;
            Check.refuses("cited " + behind, x, INDEX, () -> x.cited(behind));
        }
        Check.refuses("cite 20", x, STATE, () -> x.cite(1));
        Check.refuses("cited -1", x, INDEX, () -> x.cited(-1));
        x.withdraw(0);
        Check.refuses("cite 20, though one is of none now", x, STATE, () -> x.cite(0));
    }

    /** "which TURN has that WORD (as any of its WORDS) now; NONE, if none has." */
    private static void citesTellWhereTheWordIs() {
        Talk x = new Talk().say(0, 100, 5, 0, -1).say(0, 120, 5, 0, -1).say(0, 140, 5, 3, -1);
        x.cite(1);
        x.cite(0);
        dueCited("two turns", x, 1, 0);
        x.rest(15);
        dueCited("one turn", x, 0, 0);
        x.say(1, 0, 5, 0, -1);
        dueCited("one ahead", x, 1, 1);
        x.rest(14);
        dueCited("two behind one", x, 2, 1);
        x.say(2, 90, 20, 0, -1).say(2, 110, 10, 0, -1).say(2, 120, 5, 0, -1);
        dueCited("signs", x, -1, -1);
        x.shift(2, 1);
        dueCited("signs by a shift, too", x, -1, -1);
        x.shift(2, -1);
        dueCited("the second one is out of it", x, 2, -1);
        x.withdraw(0);
        dueCited("withdrawn", x, -1, -1);
    }

    private static void dueCited(String name, Talk x, int... due) {
        for (int cite = 0; cite < due.length; cite++) {
            Check.due("cited, " + name + ": " + cite, x.cited(cite), due[cite]);
        }
    }

    /** "The STENOGRAPHER sleeps: who calls holds no pen, and is REFUSED (counted)." */
    private static void everyCallIsRefused() {
        Talk x = new Talk();
        Check.due("none at first", x.talk(21), 0);
        for (int call = 1; call <= 300; call++) {
            Check.due("call " + call, x.call(), call);
        }
        Check.due("refused", x.talk(21), 300);
    }
}
