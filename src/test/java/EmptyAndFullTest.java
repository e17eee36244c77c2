/** What holds with nothing there at all, and with everything full: 120 WORDS, 20 CITES. */
public final class EmptyAndFullTest {
    private static final Class<IndexOutOfBoundsException> INDEX = IndexOutOfBoundsException.class;
    private static final Class<IllegalStateException> STATE = IllegalStateException.class;

    private EmptyAndFullTest() {
    }

    public static void main(String[] args) {
        noWords();
        noWordsThatCount();
        noTurns();
        oneTurn();
        fullOfLatches();
        fullOfQuestions();
        fullOfAnswers();
        fullOfInterruptions();
        fullOfWhats();
        fullOfOneStretch();
        fullOfCutOffs();
        fullOfSigns();
        fullOfAir();
        fullOfPauses();
        fullOfCites();
        fullOfCodes();
        fullOfCalls();
        Check.end("EmptyAndFullTest");
    }

    /** What talk answers, from 0 on. */
    private static void dueTalk(String name, Talk x, int... due) {
        for (int what = 0; what < due.length; what++) {
            Check.due(name + ": talk(" + what + ")", x.talk(what), due[what]);
        }
    }

    // ---- nothing there at all

    /** All that is asked of TURNS, without any. */
    private static void dueNoTurns(String name, Talk x, int restOfMost) {
        for (int what = 6; what <= 14; what++) {
            Check.due(name + ": talk(" + what + ")", x.talk(what), 0);
        }
        for (int one = 0; one <= 4; one++) {
            Check.due(name + ": would come", x.wouldCome(one), -1);
            Check.due(name + ": best shift", x.bestShift(one), 0);
            for (int two = 0; two <= 4; two++) {
                for (int what = 0; what <= 2 && one != two; what++) {
                    Check.due(name + ": between", x.between(one, two, what), 0);
                    Check.due(name + ": mean", x.mean(one, two), 0.0);
                }
            }
        }
        Check.due(name + ": test", x.test(false), 0);
        Check.due(name + ": shuffled", x.test(true), 0);
        Check.due(name + ": agreement", x.agreement(), 1.0);
        Check.due(name + ": best rest", x.bestRest(false), restOfMost);
        Check.due(name + ": sound", x.isSound(), true);
        Check.refuses(name + ": ofTurn", x, INDEX, () -> x.ofTurn(0, 0));
        Check.refuses(name + ": ofQuestion", x, INDEX, () -> x.ofQuestion(0, 0));
        Check.refuses(name + ": row", x, INDEX, () -> x.row(0));
        Check.refuses(name + ": code", x, INDEX, () -> x.code(0, 0, 0));
        Check.refuses(name + ": cite", x, INDEX, () -> x.cite(0));
    }

    private static void dueNobodyTalks(String name, Talk x) {
        for (int speaker = 0; speaker <= 4; speaker++) {
            Check.due(name + ": said", x.said(speaker), 0);
            Check.due(name + ": floor", x.floor(speaker), 0.0);
        }
    }

    private static void noWords() {
        Talk x = new Talk();
        dueTalk("new", x, 0, 0, 0, 0, 0, 0, 0, 0, 0, 0, 0, 0, 0, 0, 0, 0, 0, 0, 0, 0, 10, 0);
        dueNoTurns("new", x, 1);
        dueNobodyTalks("new", x);
        Check.due("new: many", x.bestRest(true), 0);
        Check.refuses("new: ofWord", x, INDEX, () -> x.ofWord(0, 0));
        Check.refuses("new: cited", x, INDEX, () -> x.cited(0));
        for (int one = 0; one <= 4; one++) {
            int speaker = one;
            Check.due("new: shift", x.shift(speaker, 0), 0);
            Check.due("new: withdraw", x.withdraw(speaker), 0);
            Check.due("none fits", x.fits(speaker, 0, 1), false);
            Check.refuses("none is told", x, STATE, () -> x.word(speaker, 0, 1, 0, -1));
            Check.refuses("withdrawn for good", x, STATE, () -> x.withdraw(speaker));
        }
        dueTalk("all withdrawn", x, 0, 0, 0, 0, 0, 0, 0, 0, 0, 0, 0, 0, 0, 0, 0, 0, 0, 0, 0, 0, 10, 0);
        dueNoTurns("all withdrawn", x, 1);
    }

    private static void noWordsThatCount() {
        Talk x = new Talk().say(0, 0, 5, 5, 1).say(1, 7, 5, 2, -1).say(1, 13, 5, 0, -1).say(0, 40, 5, 6, -1);
        x.cite(1);
        x.cite(0);
        x.code(0, 0, 1);
        x.code(1, 0, 2);
        Check.due("one of two is withdrawn", x.withdraw(0), 2);
        Check.due("the one left", x.wouldCome(1), 1);
        Check.due("the other one is withdrawn, too", x.withdraw(1), 2);
        dueTalk("none counts", x, 4, 0, 0, 0, 0, 0, 0, 0, 0, 0, 0, 0, 0, 0, 0, 0, 0, 0, 0, 2, 10, 0);
        dueNoTurns("none counts", x, 1);
        dueNobodyTalks("none counts", x);
        Check.due("none counts: many", x.bestRest(true), 0);
        for (int word = 0; word <= 3; word++) {
            Check.due("turn of a word that does not count", x.ofWord(word, 6), -1);
            Check.due("words of its stretch", x.ofWord(word, 7), 0);
        }
        Check.due("a cite of none", x.cited(0), -1);
        Check.due("another cite of none", x.cited(1), -1);
        Check.due("a third one tells the next number", x.word(2, 0, 1, 0, -1), 4);
    }

    private static void noTurns() {
        Talk x = new Talk().say(0, 0, 5, 3, 1).say(0, 6, 5, 4, -1).say(0, 12, 5, 3, -1).say(1, 7, 5, 0, -1);
        dueTalk("air and a sign", x, 4, 4, 2, 0, 1, 1, 0, 0, 0, 0, 0, 0, 0, 0, 0, 0, 0, 0, 0, 0, 10, 0);
        dueNoTurns("air and a sign", x, 1);
        Check.due("air and a sign: many by a rest of 1", x.bestRest(true), 0);
        Check.due("one talks in a sign", x.said(1), 5);
        Check.due("one talks in a sign: floor", x.floor(1), 1.0);
        Check.due("the sign is of no turn", x.ofWord(3, 6), -1);
        Check.due("the words of the air", x.ofWord(0, 7), 3);
        Talk apart = new Talk().say(0, 0, 5, 3, 1).say(0, 7, 5, 4, -1).say(0, 12, 5, 3, -1).say(1, 7, 5, 0, -1);
        dueNoTurns("a turn by a rest of 1", apart, 1);
        Check.due("a turn by a rest of 1: many", apart.bestRest(true), 1);
    }

    private static void oneTurn() {
        Talk x = new Talk().say(3, 0, 5, 5, 2);
        dueTalk("one", x, 1, 1, 1, 1, 0, 0, 0, 0, 0, 0, 0, 0, 0, 1, 1, 0, 0, 0, 0, 0, 10, 0);
        int[] due = {3, 0, 5, 1, 0, 2, 1, 0, -1, 0, -1, 0, 0, -1, -1, -1};
        for (int what = 0; what <= 15; what++) {
            Check.due("one: ofTurn " + what, x.ofTurn(0, what), due[what]);
        }
        Check.due("one: answer", x.ofQuestion(0, 0), -1);
        Check.due("one: how", x.ofQuestion(0, 1), -1);
        Check.due("one: inserts", x.ofQuestion(0, 2), 0);
        Check.due("one: test", x.test(false), 0);
        Check.due("one: shuffled", x.test(true), 0);
        Check.due("one: best shift", x.bestShift(3), 0);
        Check.due("one: row", x.row(0), "0 D: ?");
        Check.refuses("one: the turn behind", x, INDEX, () -> x.ofTurn(1, 0));
    }

    // ---- everything full

    /** WORDS of 1, each right behind the one ahead, by A, B, C and D in turn: 120 TURNS by a REST of 1. */
    private static Talk chain(int asking) {
        Talk x = new Talk();
        x.rest(1);
        for (int word = 0; word < 120; word++) {
            x.say(word % 4, word, 1, word < asking ? 5 : 0, -1);
        }
        return x;
    }

    private static void dueFull(String name, Talk x) {
        Check.due(name + ": words", x.talk(0), 120);
        for (int one = 0; one <= 4; one++) {
            int speaker = one;
            Check.due(name + ": none fits", x.fits(speaker, 20000, 1), false);
            Check.refuses(name + ": word 120", x, STATE, () -> x.word(speaker, 20000, 1, 0, -1));
        }
        Check.due(name + ": sound", x.isSound(), true);
        Check.refuses(name + ": the word behind the last", x, INDEX, () -> x.ofWord(120, 0));
        Check.refuses(name + ": the turn behind the last", x, INDEX, () -> x.ofTurn(x.talk(3), 0));
    }

    private static void fullOfLatches() {
        Talk x = chain(0);
        dueFull("latches", x);
        dueTalk("latches", x, 120, 120, 120, 120, 0, 0, 0, 119, 0, 0, 0, 0, 0, 0, 0, 0, 0, 0, 0, 0, 1, 0);
        Check.due("latches: test", x.test(false), 119);
        Check.due("latches: shuffled", x.test(true), 118);
        Check.due("latches: from A to B", x.between(0, 1, 0), 30);
        Check.due("latches: from D to A", x.between(3, 0, 0), 29);
        Check.due("latches: sum", x.between(0, 1, 1), 0);
        Check.due("latches: row", x.row(118), "118 C: o=");
        Check.due("latches: last row", x.row(119), "119 D: o");
        Check.due("latches: said", x.said(3), 30);
        Check.due("latches: floor", x.floor(3), 0.25);
        Check.due("latches: would come", x.wouldCome(3), 1);
        Check.due("latches: would come, another", x.wouldCome(4), 2);
        Check.due("latches: best rest", x.bestRest(false), 1);
        Check.due("latches: many", x.bestRest(true), 120);
        x.rest(3);
        dueTalk("latches no more", x, 120, 120, 4, 4, 0, 0, 0, 0, 0, 3, 3, 0, 0, 0, 0, 0, 0, 0, 0, 0, 3, 0);
        Check.due("latches no more: off", x.ofTurn(3, 7), 3 - 119);
        Check.due("latches no more: lasts", x.ofTurn(3, 9), 119 - 3);
    }

    private static void fullOfQuestions() {
        Talk x = chain(120);
        dueFull("questions", x);
        dueTalk("questions", x, 120, 120, 120, 120, 0, 0, 0, 119, 0, 0, 0, 0, 0, 120, 120, 0, 0, 0, 0, 0, 1, 0);
        for (int turn = 0; turn < 120; turn++) {
            Check.due("questions: answer of " + turn, x.ofQuestion(turn, 0), -1);
            Check.due("questions: answers " + turn, x.ofTurn(turn, 13), -1);
        }
    }

    /** Question k ends at k + 1, and is looked at by the turn of number and start 119 - k: 118 - 2 * k behind. */
    private static void fullOfAnswers() {
        Talk x = chain(60);
        dueFull("answers", x);
        Check.due("answers: asks", x.talk(13), 60);
        Check.due("answers: unanswered", x.talk(14), 34);
        for (int turn = 0; turn < 60; turn++) {
            boolean isAnswered = turn >= 34;
            Check.due("answers: answer of " + turn, x.ofQuestion(turn, 0), isAnswered ? 119 - turn : -1);
            Check.due("answers: how " + turn, x.ofQuestion(turn, 1), !isAnswered ? -1 : turn >= 56 ? 0 : 1);
            Check.due("answers: inserts of " + turn, x.ofQuestion(turn, 2), isAnswered ? 59 - turn : 0);
            Check.due("answers: what it answers", x.ofTurn(119 - turn, 13), isAnswered ? turn : -1);
        }
        for (int speaker = 0; speaker <= 4; speaker++) {
            x.shift(speaker, -100);
        }
        Check.due("answers, below 0: unanswered", x.talk(14), 34);
        Check.due("answers, below 0: start", x.ofTurn(0, 1), -100);
        Check.due("answers, below 0: end", x.ofTurn(99, 2), 0);
    }

    /** Each asks what, within the WORD ahead, and looks at another than the one who follows. */
    private static void fullOfInterruptions() {
        Talk x = new Talk();
        for (int word = 0; word < 120; word++) {
            x.say(word % 5, word * 5, 10, 6, (word + 2) % 5);
        }
        dueFull("interruptions", x);
        dueTalk("interruptions", x, 120, 120, 120, 120, 0, 0, 0, 0, 0, 119, 119, 119, 119, 120, 120, 0, 0, 120, 0, 0, 10, 0);
        for (int turn = 1; turn < 120; turn++) {
            Check.due("interruptions: off", x.ofTurn(turn, 7), -5);
            Check.due("interruptions: lasts", x.ofTurn(turn, 9), 5);
            Check.due("interruptions: against it", x.ofTurn(turn, 10), 3);
        }
        Check.due("interruptions: the first", x.ofTurn(0, 11), 0);
        Check.due("interruptions: sum from A to B", x.between(0, 1, 1), -120);
        Check.due("interruptions: overlaps from A to B", x.between(0, 1, 2), 24);
        Check.due("interruptions: mean", x.mean(4, 0), -5.0);
        Check.due("interruptions: test", x.test(false), 0);
        Check.due("interruptions: shuffled", x.test(true), 118);
        Check.due("interruptions: row", x.row(0), "0 A: !]");
    }

    /** A and B by turns: each but the first has its trouble ahead, and each but the last has one who mends it. */
    private static void fullOfWhats() {
        Talk x = new Talk();
        x.rest(1);
        for (int word = 0; word < 120; word++) {
            x.say(word % 2, word / 2 * 3 + word % 2, 1, 6, -1);
        }
        dueFull("whats", x);
        dueTalk("whats", x, 120, 120, 120, 120, 0, 0, 0, 119, 0, 0, 0, 0, 0, 120, 120, 0, 0, 120, 118, 0, 1, 0);
        Check.due("whats: test", x.test(false), 119);
        Check.due("whats: shuffled", x.test(true), 0);
        Check.due("whats: sum from B to A", x.between(1, 0, 1), 59);
        x.withdraw(1);
        dueTalk("whats of one", x, 120, 60, 60, 60, 0, 0, 59, 0, 0, 0, 0, 0, 0, 60, 60, 0, 0, 60, 0, 0, 1, 0);
    }

    private static void fullOfOneStretch() {
        Talk x = new Talk();
        StringBuilder row = new StringBuilder("0 C: ");
        for (int word = 119; word >= 0; word--) {
            x.say(2, word * 54, 50, 0, word == 60 ? 4 : -1);
        }
        for (int word = 0; word < 120; word++) {
            row.append(word == 0 ? "o" : "___o");
        }
        dueFull("one stretch", x);
        dueTalk("one stretch", x, 120, 120, 1, 1, 0, 0, 0, 0, 0, 0, 0, 0, 0, 0, 0, 0, 0, 0, 0, 0, 10, 0);
        Check.due("one stretch: words", x.ofTurn(0, 3), 120);
        Check.due("one stretch: the first", x.ofTurn(0, 4), 119);
        Check.due("one stretch: next", x.ofTurn(0, 5), 4);
        Check.due("one stretch: end", x.ofTurn(0, 2), 119 * 54 + 50);
        Check.due("one stretch: of a word", x.ofWord(77, 7), 120);
        Check.due("one stretch: row", x.row(0), row.toString());
        Check.due("one stretch: said", x.said(2), 6000);
        Check.due("one stretch: best rest", x.bestRest(false), 1);
        Check.due("one stretch: many", x.bestRest(true), 120);
        Check.due("one stretch: withdrawn", x.withdraw(2), 120);
        Check.due("one stretch: none is left", x.talk(3), 0);
    }

    private static void fullOfCutOffs() {
        Talk mended = new Talk();
        Talk broken = new Talk();
        for (int word = 0; word < 120; word++) {
            mended.say(1, word * 6, 5, word == 119 ? 1 : 2, -1);
            broken.say(1, word * 6, 5, word == 119 ? 6 : 2, -1);
        }
        Check.due("cut offs", mended.talk(15), 119);
        Check.due("cut offs, done", mended.talk(16), 119);
        Check.due("cut offs, what", broken.talk(15), 119);
        Check.due("cut offs, what, done", broken.talk(16), 0);
        mended.withdraw(1);
        Check.due("cut offs, withdrawn", mended.talk(15), 0);
    }

    /** A has three words from 0 to 150, and the others 117 within them, each a SIGN by a REST of 1. */
    private static void fullOfSigns() {
        Talk x = new Talk().say(0, 0, 50, 0, -1).say(0, 50, 50, 2, -1).say(0, 100, 50, 0, -1);
        for (int word = 0; word < 117; word++) {
            x.say(1 + word % 4, word / 4 * 5, 3, word % 5, -1);
        }
        x.rest(1);
        dueFull("signs", x);
        dueTalk("signs", x, 120, 120, 118, 1, 117, 0, 0, 0, 0, 0, 0, 0, 0, 0, 0, 1, 1, 0, 0, 0, 1, 0);
        Check.due("signs: talk of the others", x.said(1) + x.said(2) + x.said(3) + x.said(4), 71 * 3);
        x.rest(2);
        dueTalk("signs that are one each", x, 120, 120, 5, 5, 0, 0, 0, 0, 0, 4);
        x.rest(1);
        x.withdraw(0);
        dueTalk("signs of nobody", x, 120, 117, 117, 71, 0, 46);
    }

    private static void fullOfAir() {
        Talk x = new Talk();
        for (int word = 0; word < 120; word++) {
            x.say(word % 5, word * 20, 50, 3 + word % 2, (word + 1) % 5);
        }
        dueFull("air", x);
        dueTalk("air", x, 120, 120, 120, 0, 0, 120, 0, 0, 0, 0, 0, 0, 0, 0, 0, 0, 0, 0, 0, 0, 10, 0);
        dueNoTurns("air", x, 1);
        dueNobodyTalks("air", x);
    }

    private static void fullOfPauses() {
        Talk x = new Talk();
        for (int word = 0; word < 120; word++) {
            x.say(4, word * 61, 50, 0, -1);
        }
        dueFull("pauses", x);
        dueTalk("pauses", x, 120, 120, 120, 120, 0, 0, 119, 0, 0, 0, 0, 0, 0, 0, 0, 0, 0, 0, 0, 0, 10, 0);
        Check.due("pauses: off", x.ofTurn(119, 7), 11);
        Check.due("pauses: how it came", x.ofTurn(119, 10), 1);
        Check.due("pauses: test", x.test(false), 0);
        Check.due("pauses: best shift", x.bestShift(4), 0);
        Check.due("pauses: best rest", x.bestRest(false), 1);
        x.rest(11);
        Check.due("pauses no more", x.talk(3), 1);
    }

    private static void fullOfCites() {
        Talk x = chain(0);
        for (int cite = 0; cite < 20; cite++) {
            Check.due("cite " + cite, x.cite(119 - cite), cite);
        }
        Check.refuses("cite 20", x, STATE, () -> x.cite(0));
        Check.refuses("cite 20 of no turn", x, INDEX, () -> x.cite(120));
        Check.refuses("cited 20", x, INDEX, () -> x.cited(20));
        Check.due("cites", x.talk(19), 20);
        for (int cite = 0; cite < 20; cite++) {
            Check.due("cited " + cite, x.cited(cite), 119 - cite);
        }
        x.rest(3);
        for (int cite = 0; cite < 20; cite++) {
            Check.due("cited " + cite + " in one of four", x.cited(cite), (119 - cite) % 4);
        }
    }

    /** CODER 0 tells turn by turn 0 to 4, and CODER 1 each five times: one of five are the same, as by chance. */
    private static void fullOfCodes() {
        Talk x = chain(0);
        for (int turn = 0; turn < 120; turn++) {
            x.code(0, turn, turn % 5);
            x.code(1, turn, turn / 5 % 5);
        }
        for (int turn = 0; turn < 120; turn++) {
            Check.due("code by 0", x.ofTurn(turn, 14), turn % 5);
            Check.due("code by 1", x.ofTurn(turn, 15), turn / 5 % 5);
        }
        Check.due("as by chance", x.agreement(), 0.0);
        x.code(1, 1, 1);
        // Of 120 are 25 the same; CODER 1 has 24, 26, 25, 25 and 20 of each, CODER 0 has 24 of each.
        Check.due("a little better", x.agreement(), (120.0 * 25 - 24 * 120) / (14400 - 24 * 120));
    }

    /** 512 calls that all tell something, and the last of them answers as it is due. */
    private static void fullOfCalls() {
        Turnwright x = new Turnwright();
        for (int word = 0; word < 120; word++) {
            x.word(word % 5, word * 100, 50, word % 7, -1);
        }
        for (int call = 120; call < 511; call++) {
            Check.due("shift by call " + call, x.shift(call % 5, call % 201 - 100), call < 125 ? 0 : (call - 5) % 201 - 100);
        }
        Check.due("start by the last call", x.ofWord(119, 1), 11900 + 509 % 201 - 100);
    }
}
