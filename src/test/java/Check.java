/** Counts what is not as it is due, for the tests of the project. */
final class Check {
    private static int checks = 0;
    private static int wrong = 0;

    private Check() {
    }

    static void due(String what, long got, long due) {
        checks++;
        if (got != due) {
            tell(what + " answered " + got + ", due is " + due);
        }
    }

    static void due(String what, double got, double due) {
        checks++;
        if (got != due) {
            tell(what + " answered " + got + ", due is " + due);
        }
    }

    static void due(String what, boolean got, boolean due) {
        checks++;
        if (got != due) {
            tell(what + " answered " + got + ", due is " + due);
        }
    }

    static void due(String what, String got, String due) {
        checks++;
        if (!due.equals(got)) {
            tell(what + " answered " + got + ", due is " + due);
        }
    }

    /** The call must throw just this exception, and change nothing that can be asked. */
    static void refuses(String what, Turnwright talk, Class<? extends RuntimeException> due, Runnable call) {
        checks++;
        String before = state(talk);
        Class<?> got = null;
        try {
            call.run();
        } catch (RuntimeException e) {
            got = e.getClass();
        }
        if (got != due) {
            tell(what + " threw " + got + ", due is " + due);
        }
        if (!before.equals(state(talk))) {
            tell(what + " changed something");
        }
    }

    /** All that the object answers. */
    static String state(Turnwright talk) {
        StringBuilder all = new StringBuilder();
        for (int what = 0; what < 22; what++) {
            all.append(talk.talk(what)).append(' ');
        }
        for (int word = 0; word < talk.talk(0); word++) {
            for (int what = 0; what < 8; what++) {
                all.append(talk.ofWord(word, what)).append(' ');
            }
        }
        for (int turn = 0; turn < talk.talk(3); turn++) {
            all.append(talk.row(turn)).append(' ').append(talk.ofTurn(turn, 14)).append(talk.ofTurn(turn, 15));
        }
        for (int cite = 0; cite < talk.talk(19); cite++) {
            all.append(talk.cited(cite)).append(' ');
        }
        for (int speaker = 0; speaker < 5; speaker++) {
            all.append(talk.fits(speaker, 20000, 1)).append(talk.fits(speaker, 0, 50)).append(' ');
        }
        return all.append(talk.digest()).toString();
    }

    static void tell(String text) {
        wrong++;
        System.out.println(text);
    }

    static void end(String test) {
        System.out.println(test + ": " + checks + " checks, " + wrong + " wrong");
        if (wrong != 0 || checks == 0) {
            System.exit(1);
        }
    }
}
