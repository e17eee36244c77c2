/** The promises 9 to 25: for each sentence that names a bound, or what there is none of, both sides of it. */
public final class PromiseBoundsTest {
    private PromiseBoundsTest() {
    }

    public static void main(String[] args) {
        aWordThatDoesNotCount();
        theFirstTurn();
        codesOfATurn();
        oneThatDoesNotAsk();
        aMeanOfNone();
        atMostThreeForAHush();
        theEndOfARow();
        theLetterOfARow();
        aSignForEachKind();
        whyAWordDoesNotFit();
        nobodyCame();
        theSmallestRestOfSeveral();
        theLastRestThatIsTried();
        theLastShiftThatIsTried();
        theSmallestShiftOfSeveral();
        theShiftBelow0OfTwo();
        noShiftOfTheWithdrawn();
        alwaysSound();
        Check.end("PromiseBoundsTest");
    }

    /** "6 the TURN in which it is (NONE), 7 how many WORDS its STRETCH has (0, if it does not count)". */
    private static void aWordThatDoesNotCount() {
        Talk x = new Talk().say(0, 0, 9, 0, -1).say(0, 9, 9, 0, -1).say(0, 18, 9, 0, -1).say(1, 3, 5, 0, -1);
        x.say(2, 60, 5, 3, -1).say(3, 90, 5, 0, -1).say(3, 96, 5, 0, -1);
        int[][] due = {{0, 3}, {0, 3}, {0, 3}, {-1, 1}, {-1, 1}, {1, 2}, {1, 2}};
        int[][] dueWithout = {{-1, 0}, {-1, 0}, {-1, 0}, {0, 1}, {-1, 1}, {1, 2}, {1, 2}};
        for (int word = 0; word <= 6; word++) {
            Check.due("turn of word " + word, x.ofWord(word, 6), due[word][0]);
            Check.due("words with word " + word, x.ofWord(word, 7), due[word][1]);
            Check.due("word " + word + " counts", x.ofWord(word, 5), 1);
        }
        x.withdraw(0);
        for (int word = 0; word <= 6; word++) {
            Check.due("without A: turn of word " + word, x.ofWord(word, 6), dueWithout[word][0]);
            Check.due("without A: words with word " + word, x.ofWord(word, 7), dueWithout[word][1]);
            Check.due("without A: word " + word + " counts", x.ofWord(word, 5), word <= 2 ? 0 : 1);
        }
    }

    /** "7 OFF (of the first TURN 0), 8 [..] (NONE of the first one), 9 [..] (0), 10 how it came (NONE of the first)". */
    private static void theFirstTurn() {
        Talk x = new Talk().say(3, 70, 20, 6, 1).say(1, 80, 5, 6, 2).say(1, 86, 20, 3, -1);
        dueAhead("the first", x, 0, 0, -1, 0, -1, 0, 0);
        dueAhead("the second", x, 1, -10, 3, 10, 0, 1, 1);
        x.shift(3, 30);
        dueAhead("the second is the first now", x, 0, 0, -1, 0, -1, 0, 0);
        Check.due("its speaker", x.ofTurn(0, 0), 1);
        x.withdraw(1);
        dueAhead("the only one", x, 0, 0, -1, 0, -1, 0, 0);
        Check.due("the speaker left", x.ofTurn(0, 0), 3);
        x.shift(3, -70);
        dueAhead("from 0 on", x, 0, 0, -1, 0, -1, 0, 0);
        x.shift(3, -100);
        dueAhead("from below 0 on", x, 0, 0, -1, 0, -1, 0, 0);
    }

    /** What ofTurn answers to 7 to 12. */
    private static void dueAhead(String name, Talk x, int turn, int... due) {
        for (int index = 0; index < due.length; index++) {
            Check.due(name + ": ofTurn " + (7 + index), x.ofTurn(turn, 7 + index), due[index]);
        }
    }

    /** "14 and 15 its CODES by the CODERS 0 and 1 (NONE)". */
    private static void codesOfATurn() {
        for (int code = 0; code <= 4; code++) {
            Talk x = new Talk().say(0, 0, 5, 0, -1).say(1, 6, 5, 0, -1);
            Check.due("code told to 0", x.code(0, 0, code), -1);
            Check.due("code by 0", x.ofTurn(0, 14), code);
            Check.due("none by 1", x.ofTurn(0, 15), -1);
            Check.due("code told to 1", x.code(1, 0, 4 - code), -1);
            Check.due("code by 0, still", x.ofTurn(0, 14), code);
            Check.due("code by 1", x.ofTurn(0, 15), 4 - code);
            Check.due("none of the other by 0", x.ofTurn(1, 14), -1);
            Check.due("none of the other by 1", x.ofTurn(1, 15), -1);
        }
    }

    /** "Returns that (of one that does not ASK: NONE, NONE, 0)." */
    private static void oneThatDoesNotAsk() {
        Talk x = new Talk().say(0, 0, 5, 0, -1).say(1, 6, 5, 5, -1).say(1, 12, 5, 0, -1).say(2, 18, 5, 6, -1);
        x.say(3, 24, 5, 1, -1).say(4, 30, 5, 2, -1);
        int[][] due = {{-1, -1, 0}, {-1, -1, 0}, {3, 0, 0}, {-1, -1, 0}, {-1, -1, 0}};
        for (int turn = 0; turn <= 4; turn++) {
            for (int what = 0; what <= 2; what++) {
                Check.due("ofQuestion " + turn + " " + what, x.ofQuestion(turn, what), due[turn][what]);
            }
        }
    }

    /** "as a double; 0.0, if there are none." */
    private static void aMeanOfNone() {
        Talk x = new Talk().say(0, 0, 5, 0, -1).say(1, 9, 5, 0, -1).say(0, 30, 5, 0, -1).say(1, 38, 5, 0, -1);
        for (int one = 0; one <= 4; one++) {
            for (int two = 0; two <= 4; two++) {
                double due = one == 0 && two == 1 ? 3.5 : one == 1 && two == 0 ? 16.0 : 0.0;
                if (one != two) {
                    Check.due("mean from " + one + " to " + two, x.mean(one, two), due);
                }
            }
        }
    }

    /** "ahead of a WORD that starts behind the END of the one ahead <<_>> for each tenth, at most three". */
    private static void atMostThreeForAHush() {
        for (int tenths = 0; tenths <= 30; tenths++) {
            Talk x = new Talk().say(1, 100, 5, 1, -1).say(1, 105 + tenths, 5, 4, -1);
            x.rest(30);
            Check.due("a hush of " + tenths, x.row(0), "0 B: ." + "_".repeat(Math.min(3, tenths)) + "x");
        }
    }

    /** "at the end <<]>> if the next TURN is an OVERLAP, <<=>> if it is a LATCH." */
    private static void theEndOfARow() {
        String[] ends = {"]", "]", "=", "=", "", ""};
        for (int off = -2; off <= 3; off++) {
            Talk x = new Talk().say(2, 100, 10, 0, -1).say(0, 110 + off, 9, 0, -1);
            Check.due("a row ahead by " + off, x.row(0), "0 C: o" + ends[off + 2]);
            Check.due("the last row by " + off, x.row(1), "1 A: o");
        }
        Talk pause = new Talk().say(2, 100, 10, 0, -1).say(2, 112, 9, 0, -1);
        pause.rest(1);
        Check.due("a row ahead of a pause", pause.row(0), "0 C: o");
    }

    /** "its number, <<space>>, its SPEAKER as a letter (<<A>> for 0)". */
    private static void theLetterOfARow() {
        String[] letters = {"A", "B", "C", "D", "E"};
        Talk x = new Talk();
        for (int turn = 0; turn < 120; turn++) {
            x.say(turn % 5, turn * 8, 5, 0, -1);
        }
        for (int turn = 0; turn < 120; turn++) {
            Check.due("row " + turn, x.row(turn), turn + " " + letters[turn % 5] + ": o");
        }
    }

    /** "WORD by WORD one sign: <<o>> KIND 0, <<.>> 1, <<->> 2, <<h>> 3, <<x>> 4, <<?>> 5, <<!>> 6". */
    private static void aSignForEachKind() {
        String[] signs = {"o", ".", "-", "h", "x", "?", "!"};
        for (int kind = 0; kind <= 6; kind++) {
            Talk x = new Talk().say(4, 0, 1, kind, -1).say(4, 1, 1, 0, -1).say(4, 2, 50, kind, -1);
            Check.due("row of kind " + kind, x.row(0), "0 E: " + signs[kind] + "o" + signs[kind]);
        }
    }

    /** "whether such a WORD could be told now (of any KIND; in range, room for it, not WITHDRAWN, no shared time)". */
    private static void whyAWordDoesNotFit() {
        Talk x = new Talk().say(1, 50, 10, 0, -1);
        int[][] due = { // START, length, whether it fits
            {0, 1, 1}, {0, 50, 1}, {-1, 1, 0}, {0, 0, 0}, {0, 51, 0}, {20000, 1, 1}, {20000, 50, 1}, {20001, 1, 0},
            {20000, 51, 0}, {20000, 0, 0}, {49, 1, 1}, {49, 2, 0}, {59, 1, 0}, {60, 1, 1},
        };
        for (int[] row : due) {
            Check.due("fits at " + row[0] + " for " + row[1], x.fits(1, row[0], row[1]), row[2] == 1);
        }
        x.withdraw(1);
        Check.due("not of one withdrawn", x.fits(1, 0, 1), false);
        Check.due("of another one", x.fits(2, 0, 1), true);
        for (int word = 1; word <= 118; word++) {
            x.say(2, word * 20, 5, 0, -1);
        }
        Check.due("room for the last word", x.fits(3, 0, 1), true);
        x.say(3, 0, 1, 0, -1);
        Check.due("no room", x.fits(3, 1, 1), false);
    }

    /** "how a TURN of that one would come behind the last TURN (0 to 3); NONE without any TURN (of one WITHDRAWN". */
    private static void nobodyCame() {
        Talk x = new Talk().say(0, 0, 5, 3, 2);
        dueWouldCome("only air", x, -1, -1, -1, -1, -1);
        x.say(1, 30, 5, 0, 3);
        dueWouldCome("one turn", x, 3, 1, 3, 0, 3);
        x.say(2, 60, 5, 0, -1);
        dueWouldCome("two turns", x, 2, 2, 1, 2, 2);
        x.withdraw(3);
        dueWouldCome("of one withdrawn as of others", x, 2, 2, 1, 2, 2);
        x.withdraw(2);
        dueWouldCome("one withdrawn who is chosen", x, 3, 1, 3, 0, 3);
        x.withdraw(1);
        dueWouldCome("none without any turn", x, -1, -1, -1, -1, -1);
    }

    private static void dueWouldCome(String name, Talk x, int... due) {
        for (int speaker = 0; speaker <= 4; speaker++) {
            Check.due(name + ": " + speaker, x.wouldCome(speaker), due[speaker]);
        }
    }

    /** Three words of A with these hushes between, within three of B that are a talk by any REST. */
    private static Talk within(int hush, int secondHush) {
        Talk x = new Talk().say(1, 0, 50, 0, -1).say(1, 50, 50, 0, -1).say(1, 100, 50, 0, -1);
        return x.say(0, 10, 5, 0, -1).say(0, 15 + hush, 5, 0, -1).say(0, 20 + hush + secondHush, 5, 0, -1);
    }

    private static void dueBestRest(String name, Talk x, int rest, int many) {
        for (int now : new int[] {1, 10, 30}) {
            x.rest(now);
            Check.due(name + ": best rest", x.bestRest(false), rest);
            Check.due(name + ": how many", x.bestRest(true), many);
        }
    }

    /** "the REST of 1 to 30 with the most TURNS (of several the smallest one), or how many." */
    private static void theSmallestRestOfSeveral() {
        dueBestRest("no turn by any", new Talk(), 1, 0);
        dueBestRest("one turn by any", new Talk().say(0, 0, 5, 0, -1), 1, 1);
        dueBestRest("two turns by less than 9", new Talk().say(0, 0, 5, 0, -1).say(0, 14, 5, 0, -1), 1, 2);
        dueBestRest("one turn by 1, too", new Talk().say(0, 0, 5, 0, -1).say(0, 6, 5, 0, -1), 1, 1);
        for (int hush = 1; hush <= 30; hush++) {
            dueBestRest("a turn within by " + hush, within(hush, 1), hush, 2);
            dueBestRest("a turn within by " + hush + ", the other way", within(0, hush), hush, 2);
        }
    }

    /** "of 1 to 30": what would be by 0 or 31 is not looked at. */
    private static void theLastRestThatIsTried() {
        dueBestRest("30", within(30, 30), 30, 2);
        dueBestRest("31", within(31, 31), 1, 1);
        dueBestRest("1 apart is one by 1", new Talk().say(0, 0, 5, 0, -1).say(0, 6, 5, 0, -1).say(0, 12, 5, 0, -1), 1, 1);
    }

    private static void dueBestShift(String name, Talk x, int speaker, int due) {
        for (int now : new int[] {-100, -20, 0, 20, 100}) {
            x.shift(speaker, now);
            Check.due(name + ", best shift in place of " + now, x.bestShift(speaker), due);
        }
    }

    /** "the SHIFT of -20 to 20 (in place of its SHIFT now) by which the sum [..] would be the least". */
    private static void theLastShiftThatIsTried() {
        for (int apart = 0; apart <= 25; apart++) {
            int due = Math.min(20, apart);
            dueBestShift("later by " + apart, new Talk().say(1, 200, 9, 0, -1).say(3, 209 + apart, 9, 0, -1), 3, -due);
            dueBestShift("earlier by " + apart, new Talk().say(1, 200, 9, 0, -1).say(3, 191 - apart, 9, 0, -1), 3, due);
        }
    }

    /** "of several that with the smallest ABS": from -OFF of the one to OFF of the other the sum is the same. */
    private static void theSmallestShiftOfSeveral() {
        for (int middle = 212; middle <= 228; middle++) {
            Talk x = new Talk().say(0, 200, 10, 0, -1).say(2, middle, 10, 0, -1).say(4, 240, 10, 0, -1);
            // B may be anywhere from 210 to 230.
            dueBestShift("between two at " + middle, x, 2, 0);
        }
        dueBestShift("1 too early", new Talk().say(0, 200, 10, 0, -1).say(2, 209, 10, 0, -1).say(4, 240, 9, 0, -1), 2, 1);
        dueBestShift("1 too late", new Talk().say(0, 200, 10, 0, -1).say(2, 231, 10, 0, -1).say(4, 240, 9, 0, -1), 2, -1);
    }

    /** "then the one below 0": B lies in the middle of A, and touches it ahead and behind by the same SHIFT. */
    private static void theShiftBelow0OfTwo() {
        for (int half = 1; half <= 9; half++) {
            Talk x = new Talk().say(0, 200, 4 * half, 0, -1).say(1, 200 + half, 2 * half, 0, -1);
            dueBestShift("both by " + 3 * half, x, 1, -Math.min(20, 3 * half));
        }
    }

    /** "0 for one who is WITHDRAWN." */
    private static void noShiftOfTheWithdrawn() {
        Talk x = new Talk().say(0, 200, 9, 0, -1).say(1, 215, 35, 0, -1).say(2, 256, 9, 0, -1);
        Check.due("behind the other two", x.bestShift(2), -6);
        Check.due("between the other two", x.bestShift(1), 0);
        x.withdraw(2);
        Check.due("withdrawn", x.bestShift(2), 0);
        Check.due("behind the other one", x.bestShift(1), -6);
        Check.due("one without words", x.bestShift(4), 0);
        x.withdraw(4);
        Check.due("one without words, withdrawn", x.bestShift(4), 0);
    }

    /** "whether all of this is so": it always is, whatever is told. */
    private static void alwaysSound() {
        Talk x = new Talk();
        for (int word = 0; word < 120; word++) {
            x.say(word % 5, word * 6, 5 + word % 13, word % 7, (word + 1 + word % 4) % 5);
            Check.due("sound with " + word, x.isSound(), true);
        }
        for (int speaker = 0; speaker <= 4; speaker++) {
            x.shift(speaker, speaker * 50 - 100);
            x.rest(1 + speaker * 7);
            Check.due("sound by shifts and rests", x.isSound(), true);
        }
        for (int speaker = 0; speaker <= 4; speaker++) {
            x.withdraw(speaker);
            Check.due("sound with fewer", x.isSound(), true);
        }
    }
}
