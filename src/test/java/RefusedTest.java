import java.util.ArrayList;
import java.util.List;
import java.util.function.Consumer;
import java.util.function.Supplier;

/**
 * Each call with each of its arguments on both sides of its bounds, all combined, in several situations: it throws
 * the exception that the document names first of those that apply, or nothing, and a refused call changes nothing.
 */
public final class RefusedTest {
    private static final Class<IndexOutOfBoundsException> INDEX = IndexOutOfBoundsException.class;
    private static final Class<IllegalArgumentException> ARGUMENT = IllegalArgumentException.class;
    private static final Class<IllegalStateException> STATE = IllegalStateException.class;
    private static final int LEAST = Integer.MIN_VALUE;
    private static final int MOST = Integer.MAX_VALUE;
    private static final int[] SPEAKERS = {LEAST, -1, 0, 4, 5, MOST};
    /** So many refused calls are made ahead of a look at what has changed. */
    private static final int BATCH = 100;

    /** What the exceptions depend on; if there are words, A has one from 0 on, and E has one from 20000 on. */
    private record Situation(String name, Supplier<Talk> talk, int words, int turns, int cites, boolean areGone) {
    }

    /** A call with what it is due to throw; null, if it is due to be taken. */
    private record Try(String name, Class<? extends RuntimeException> due, Consumer<Talk> call) {
    }

    private RefusedTest() {
    }

    public static void main(String[] args) {
        Situation[] situations = {
            new Situation("new", Talk::new, 0, 0, 0, false),
            new Situation("some", RefusedTest::some, 5, 3, 2, false),
            new Situation("full", RefusedTest::full, 120, 120, 20, false),
            new Situation("all withdrawn", RefusedTest::allWithdrawn, 5, 0, 2, true),
        };
        for (Situation situation : situations) {
            List<Try> tries = new ArrayList<>();
            addWords(tries, situation);
            addOtherTelling(tries, situation);
            addAskingOfOne(tries, situation);
            addAskingOfSpeakers(tries);
            take(situation, tries);
            refuse(situation, tries);
        }
        Check.end("RefusedTest");
    }

    // ---- the situations

    private static Talk some() {
        Talk x = new Talk().say(0, 0, 5, 0, 1).say(4, 20000, 50, 5, -1).say(1, 8, 3, 3, 0).say(2, 40, 5, 2, -1);
        x.say(2, 50, 5, 1, -1);
        x.code(0, 0, 2);
        x.code(1, 0, 3);
        x.cite(2);
        x.cite(1);
        x.rest(9);
        x.shift(1, 7);
        x.call();
        return x;
    }

    private static Talk full() {
        Talk x = new Talk();
        for (int word = 0; word < 119; word++) {
            x.say(word % 5, word * 12, 10 + word % 9, word * 5 % 3, (word + 2) % 5);
        }
        x.say(4, 20000, 50, 6, -1);
        for (int cite = 0; cite < 20; cite++) {
            x.cite(cite * 6);
            x.code(cite % 2, cite, cite % 5);
        }
        return x;
    }

    private static Talk allWithdrawn() {
        Talk x = some();
        for (int speaker = 0; speaker <= 4; speaker++) {
            x.withdraw(speaker);
        }
        return x;
    }

    // ---- what is due of the calls

    private static boolean isSpeaker(int speaker) {
        return speaker >= 0 && speaker <= 4;
    }

    /** The number of a word, turn or cite, on both sides of where there are some. */
    private static int[] numbers(int many) {
        return new int[] {LEAST, -1, 0, many - 1, many, MOST};
    }

    /** INDEX, if the first does not hold; ARGUMENT, if the second does not. */
    private static Class<? extends RuntimeException> due(boolean isThere, boolean isRight) {
        return !isThere ? INDEX : !isRight ? ARGUMENT : null;
    }

    private static void addWords(List<Try> tries, Situation situation) {
        for (int speaker : SPEAKERS) {
            for (int start : new int[] {LEAST, -1, 0, 20000, 20001, MOST}) {
                for (int length : new int[] {LEAST, 0, 1, 50, 51, MOST}) {
                    addWordsOf(tries, situation, speaker, start, length);
                    tries.add(new Try("fits " + speaker + " " + start + " " + length, due(isSpeaker(speaker), true),
                            x -> x.fits(speaker, start, length)));
                }
            }
        }
    }

    private static void addWordsOf(List<Try> tries, Situation situation, int speaker, int start, int length) {
        for (int kind : new int[] {-1, 0, 6, 7}) {
            for (int look : new int[] {LEAST, -2, -1, 0, 4, 5, MOST}) {
                Class<? extends RuntimeException> due = due(isSpeaker(speaker) && look >= -1 && look <= 4,
                        start >= 0 && start <= 20000 && length >= 1 && length <= 50 && kind >= 0 && kind <= 6
                        && look != speaker);
                boolean isShared = situation.words() > 0 && (speaker == 0 && start == 0 || speaker == 4 && start == 20000);
                if (due == null && (situation.words() == 120 || situation.areGone() || isShared)) {
                    due = STATE;
                }
                String name = "word " + speaker + " " + start + " " + length + " " + kind + " " + look;
                tries.add(new Try(name, due, x -> x.word(speaker, start, length, kind, look)));
            }
        }
    }

    private static void addOtherTelling(List<Try> tries, Situation situation) {
        for (int rest : new int[] {LEAST, -1, 0, 1, 30, 31, MOST}) {
            tries.add(new Try("rest " + rest, due(true, rest >= 1 && rest <= 30), x -> x.rest(rest)));
        }
        for (int speaker : SPEAKERS) {
            for (int shift : new int[] {LEAST, -101, -100, 0, 100, 101, MOST}) {
                tries.add(new Try("shift " + speaker + " " + shift,
                        due(isSpeaker(speaker), shift >= -100 && shift <= 100), x -> x.shift(speaker, shift)));
            }
            Class<? extends RuntimeException> due = due(isSpeaker(speaker), true);
            due = due == null && situation.areGone() ? STATE : due;
            tries.add(new Try("withdraw " + speaker, due, x -> x.withdraw(speaker)));
        }
        for (int turn : numbers(situation.turns())) {
            boolean isTurn = turn >= 0 && turn < situation.turns();
            for (int coder : new int[] {LEAST, -1, 0, 1, 2, MOST}) {
                for (int code : new int[] {LEAST, -1, 0, 4, 5, MOST}) {
                    tries.add(new Try("code " + coder + " " + turn + " " + code,
                            due(isTurn && coder >= 0 && coder <= 1, code >= 0 && code <= 4),
                            x -> x.code(coder, turn, code)));
                }
            }
            Class<? extends RuntimeException> due = due(isTurn, true);
            due = due == null && situation.cites() == 20 ? STATE : due;
            tries.add(new Try("cite " + turn, due, x -> x.cite(turn)));
        }
    }

    private static void addAskingOfOne(List<Try> tries, Situation situation) {
        for (int what : new int[] {LEAST, -1, 0, 7, 8, MOST}) {
            for (int word : numbers(situation.words())) {
                tries.add(new Try("ofWord " + word + " " + what,
                        due(word >= 0 && word < situation.words(), what >= 0 && what <= 7), x -> x.ofWord(word, what)));
            }
        }
        for (int turn : numbers(situation.turns())) {
            boolean isTurn = turn >= 0 && turn < situation.turns();
            for (int what : new int[] {LEAST, -1, 0, 15, 16, MOST}) {
                tries.add(new Try("ofTurn " + turn + " " + what, due(isTurn, what >= 0 && what <= 15),
                        x -> x.ofTurn(turn, what)));
            }
            for (int what : new int[] {LEAST, -1, 0, 2, 3, MOST}) {
                tries.add(new Try("ofQuestion " + turn + " " + what, due(isTurn, what >= 0 && what <= 2),
                        x -> x.ofQuestion(turn, what)));
            }
            tries.add(new Try("row " + turn, due(isTurn, true), x -> x.row(turn)));
        }
        for (int what : new int[] {LEAST, -1, 0, 21, 22, MOST}) {
            tries.add(new Try("talk " + what, due(true, what >= 0 && what <= 21), x -> x.talk(what)));
        }
        for (int cite : numbers(situation.cites())) {
            tries.add(new Try("cited " + cite, due(cite >= 0 && cite < situation.cites(), true), x -> x.cited(cite)));
        }
    }

    private static void addAskingOfSpeakers(List<Try> tries) {
        for (int one : SPEAKERS) {
            for (int two : SPEAKERS) {
                boolean areSpeakers = isSpeaker(one) && isSpeaker(two);
                for (int what : new int[] {LEAST, -1, 0, 2, 3, MOST}) {
                    tries.add(new Try("between " + one + " " + two + " " + what,
                            due(areSpeakers, one != two && what >= 0 && what <= 2), x -> x.between(one, two, what)));
                }
                tries.add(new Try("mean " + one + " " + two, due(areSpeakers, one != two), x -> x.mean(one, two)));
            }
            Class<? extends RuntimeException> due = due(isSpeaker(one), true);
            tries.add(new Try("said " + one, due, x -> x.said(one)));
            tries.add(new Try("floor " + one, due, x -> x.floor(one)));
            tries.add(new Try("wouldCome " + one, due, x -> x.wouldCome(one)));
            tries.add(new Try("bestShift " + one, due, x -> x.bestShift(one)));
        }
    }

    // ---- the tries

    /** Those that are due to be taken, each of a talk of its own. */
    private static void take(Situation situation, List<Try> tries) {
        for (Try one : tries) {
            if (one.due() == null) {
                Check.throwsJust(situation.name() + ": " + one.name(), null, () -> one.call().accept(situation.talk().get()));
            }
        }
    }

    private static void refuse(Situation situation, List<Try> tries) {
        String before = Check.state(situation.talk().get());
        Talk x = situation.talk().get();
        int made = 0;
        for (Try one : tries) {
            if (one.due() == null) {
                continue;
            }
            Talk of = x;
            Check.throwsJust(situation.name() + ": " + one.name(), one.due(), () -> one.call().accept(of));
            made++;
            if (made % BATCH == 0) {
                Check.due(situation.name() + ": unchanged by what was refused to " + one.name(), Check.state(x), before);
                x = situation.talk().get();
            }
        }
        Check.due(situation.name() + ": unchanged by what was refused last", Check.state(x), before);
    }
}
