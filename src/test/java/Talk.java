import java.util.ArrayList;
import java.util.List;
import java.util.function.Consumer;
import java.util.function.Function;

/**
 * A Turnwright that can be called without end. Nothing is promised of an object behind its 512th call: so
 * whenever the one in use has had that many, all that was told is told again to a new one.
 */
final class Talk {
    private static final int CALLS = 512;

    private final List<Consumer<Turnwright>> told = new ArrayList<>();
    private Turnwright one = new Turnwright();
    private int calls = 0;

    /** A call that is made again whenever all is told again. */
    <T> T tell(Function<Turnwright, T> call) {
        Turnwright x = one();
        told.add(call::apply);
        return call.apply(x);
    }

    /** A call that is forgotten, unless it throws: then it must change nothing, which is seen if it is made again. */
    private <T> T ask(Function<Turnwright, T> call) {
        Turnwright x = one();
        try {
            return call.apply(x);
        } catch (RuntimeException e) {
            told.add(call::apply);
            throw e;
        }
    }

    private Turnwright one() {
        if (calls == CALLS) {
            tellAgain();
        }
        calls++;
        return one;
    }

    private void tellAgain() {
        if (told.size() >= CALLS) {
            throw new AssertionError("more was told than one object can be told");
        }
        one = new Turnwright();
        for (Consumer<Turnwright> call : told) {
            try {
                call.accept(one);
            } catch (RuntimeException e) {
                // It threw as it was made first, too, and that was looked at then.
            }
        }
        calls = told.size();
    }

    int word(int speaker, int start, int length, int kind, int look) {
        return tell(x -> x.word(speaker, start, length, kind, look));
    }

    /** Tells a WORD, and goes on from there: for talks that are told in one line. */
    Talk say(int speaker, int start, int length, int kind, int look) {
        word(speaker, start, length, kind, look);
        return this;
    }

    int rest(int rest) {
        return tell(x -> x.rest(rest));
    }

    int shift(int speaker, int shift) {
        return tell(x -> x.shift(speaker, shift));
    }

    int withdraw(int speaker) {
        return tell(x -> x.withdraw(speaker));
    }

    int code(int coder, int turn, int code) {
        return tell(x -> x.code(coder, turn, code));
    }

    int cite(int turn) {
        return tell(x -> x.cite(turn));
    }

    int call() {
        return tell(x -> x.call());
    }

    int ofWord(int word, int what) {
        return ask(x -> x.ofWord(word, what));
    }

    int ofTurn(int turn, int what) {
        return ask(x -> x.ofTurn(turn, what));
    }

    int ofQuestion(int turn, int what) {
        return ask(x -> x.ofQuestion(turn, what));
    }

    int talk(int what) {
        return ask(x -> x.talk(what));
    }

    int between(int one, int two, int what) {
        return ask(x -> x.between(one, two, what));
    }

    double mean(int one, int two) {
        return ask(x -> x.mean(one, two));
    }

    int said(int speaker) {
        return ask(x -> x.said(speaker));
    }

    double floor(int speaker) {
        return ask(x -> x.floor(speaker));
    }

    int test(boolean isShuffled) {
        return ask(x -> x.test(isShuffled));
    }

    double agreement() {
        return ask(x -> x.agreement());
    }

    int cited(int cite) {
        return ask(x -> x.cited(cite));
    }

    String row(int turn) {
        return ask(x -> x.row(turn));
    }

    boolean fits(int speaker, int start, int length) {
        return ask(x -> x.fits(speaker, start, length));
    }

    int wouldCome(int speaker) {
        return ask(x -> x.wouldCome(speaker));
    }

    int bestRest(boolean isMany) {
        return ask(x -> x.bestRest(isMany));
    }

    int bestShift(int speaker) {
        return ask(x -> x.bestShift(speaker));
    }

    boolean isSound() {
        return ask(x -> x.isSound());
    }

    long digest() {
        return ask(x -> x.digest());
    }
}
