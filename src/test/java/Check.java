/** Counts what is not as it is due, for the tests of the project. */
final class Check {
    private static int checks = 0;
    private static int wrong = 0;

    private Check() {
    }

    static void due(String what, long got, long due) {
        checks++;
        if (got != due) {
            tell(what + " answered " + got + ", due is " + due);
        }
    }

    static void due(String what, double got, double due) {
        checks++;
        if (got != due) {
            tell(what + " answered " + got + ", due is " + due);
        }
    }

    static void due(String what, boolean got, boolean due) {
        checks++;
        if (got != due) {
            tell(what + " answered " + got + ", due is " + due);
        }
    }

    static void due(String what, String got, String due) {
        checks++;
        if (!due.equals(got)) {
            tell(what + " answered " + got + ", due is " + due);
        }
    }

    /** The call must throw just this exception, and change nothing that can be asked. */
    static void refuses(String what, Talk talk, Class<? extends RuntimeException> due, Runnable call) {
        String before = state(talk);
        throwsJust(what, due, call);
        if (!before.equals(state(talk))) {
            tell(what + " changed something");
        }
    }

    /** The call must throw just this exception; nothing, if that is null. */
    static void throwsJust(String what, Class<? extends RuntimeException> due, Runnable call) {
        checks++;
        Class<?> got = null;
        try {
            call.run();
        } catch (RuntimeException e) {
            got = e.getClass();
        }
        if (got != due) {
            tell(what + " threw " + got + ", due is " + due);
        }
    }

    /** All that the object answers. */
    static String state(Talk talk) {
        StringBuilder all = new StringBuilder();
        for (int what = 0; what <= 21; what++) {
            all.append(talk.talk(what)).append(' ');
        }
        for (int word = 0; word < talk.talk(0); word++) {
            for (int what = 0; what <= 7; what++) {
                all.append(talk.ofWord(word, what)).append(' ');
            }
        }
        for (int turn = 0; turn < talk.talk(3); turn++) {
            addTurn(all, talk, turn);
        }
        for (int cite = 0; cite < talk.talk(19); cite++) {
            all.append(talk.cited(cite)).append(' ');
        }
        for (int speaker = 0; speaker <= 4; speaker++) {
            addSpeaker(all, talk, speaker);
        }
        all.append(talk.test(false)).append(' ').append(talk.test(true)).append(' ').append(talk.agreement());
        all.append(' ').append(talk.bestRest(false)).append(' ').append(talk.bestRest(true));
        return all.append(talk.isSound()).append(talk.digest()).toString();
    }

    private static void addTurn(StringBuilder all, Talk talk, int turn) {
        all.append(talk.row(turn));
        for (int what = 0; what <= 15; what++) {
            all.append(' ').append(talk.ofTurn(turn, what));
        }
        for (int what = 0; what <= 2; what++) {
            all.append(' ').append(talk.ofQuestion(turn, what));
        }
    }

    private static void addSpeaker(StringBuilder all, Talk talk, int speaker) {
        all.append(talk.said(speaker)).append(' ').append(talk.floor(speaker)).append(' ');
        all.append(talk.wouldCome(speaker)).append(' ').append(talk.bestShift(speaker)).append(' ');
        all.append(talk.fits(speaker, 20000, 1)).append(talk.fits(speaker, 0, 50));
        for (int two = 0; two <= 4; two++) {
            if (two != speaker) {
                all.append(talk.mean(speaker, two));
                for (int what = 0; what <= 2; what++) {
                    all.append(' ').append(talk.between(speaker, two, what));
                }
            }
        }
    }

    static void tell(String text) {
        wrong++;
        System.out.println(text);
    }

    static void end(String test) {
        System.out.println(test + ": " + checks + " checks, " + wrong + " wrong");
        if (wrong != 0 || checks == 0) {
            System.exit(1);
        }
    }
}
