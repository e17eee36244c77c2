import java.math.BigInteger;
import java.util.ArrayList;
import java.util.List;

/** Promise 26: the checksum. */
public final class DigestTest {
    private DigestTest() {
    }

    public static void main(String[] args) {
        ofNothing();
        ofTwoWords();
        ofTwoWordsWithdrawn();
        productsAreCut();
        ofMoreAndMore();
        ofCloseWords();
        ofAllThatIsFull();
        Check.end("DigestTest");
    }

    /** The checksum of these values, worked out without bounds; what is beyond 64 bits is taken off at the end. */
    private static long wrapped(BigInteger d) {
        return d.longValue();
    }

    private static BigInteger unbounded(List<Long> values) {
        BigInteger d = BigInteger.valueOf(4111);
        for (long value : values) {
            d = d.multiply(BigInteger.valueOf(31)).add(BigInteger.valueOf(value));
        }
        return d;
    }

    private static List<Long> listOf(long[]... parts) {
        List<Long> values = new ArrayList<>();
        for (long[] part : parts) {
            for (long value : part) {
                values.add(value);
            }
        }
        return values;
    }

    private static void ofNothing() {
        long[] talk = {0, 0, 0, 0, 0, 0, 0, 0, 0, 0, 0, 0, 0, 0, 0, 0, 0, 0, 0, 0, 10, 0};
        long[] speaker = {0, -1, 0, 0, 0, 0, 0, 0, 0, 0, 0, 0, 0, 0, 0};
        long[] end = {0, 0, 1, 0, 64, 1};
        BigInteger d = unbounded(listOf(talk, speaker, speaker, speaker, speaker, speaker, end));
        Check.due("beyond 64 bits", d.bitLength() > 500, true);
        Check.due("digest of nothing", new Talk().digest(), wrapped(d));
    }

    private static Talk twoWords() {
        return new Talk().say(0, 0, 10, 5, 1).say(1, 14, 5, 2, -1);
    }

    private static void ofTwoWords() {
        long[] talk = {2, 2, 2, 2, 0, 0, 0, 0, 1, 0, 0, 0, 0, 1, 0, 0, 0, 0, 0, 1, 10, 2};
        long[] words = {0, 1, 0, 1, 14, 1, 1, 1};
        long[] first = {0, 0, 10, 1, 0, 1, 1, 0, -1, 0, -1, 0, 0, -1, 3, -1, 1, 0, 0};
        long[] second = {1, 14, 19, 1, 1, -1, 0, 4, 2, 0, 0, 0, 0, 0, -1, 4, -1, -1, 0};
        long[] a = {10, 2, 4, 1, 4, 0, 0, 0, 0, 0, 0, 0, 0, 0, 0};
        long[] b = {5, 1, -4, 0, 0, 0, 0, 0, 0, 0, 0, 0, 0, 0, 0};
        long[] other = {0, 2, 0, 0, 0, 0, 0, 0, 0, 0, 0, 0, 0, 0, 0};
        long[] end = {1, 0, 1, 1, 2, 64, 1};
        Talk x = twoWords();
        x.cite(1);
        x.code(0, 0, 3);
        x.code(1, 1, 4);
        x.call();
        x.call();
        Check.due("digest of two words", x.digest(),
                wrapped(unbounded(listOf(talk, words, first, second, a, b, other, other, other, end))));
    }

    private static void ofTwoWordsWithdrawn() {
        long[] talk = {2, 1, 1, 1, 0, 0, 0, 0, 0, 0, 0, 0, 0, 0, 0, 0, 0, 0, 0, 2, 10, 0};
        long[] words = {0, 0, -1, 0, 14, 1, 0, 1};
        long[] turn = {1, 14, 19, 1, 1, -1, 0, 0, -1, 0, -1, 0, 0, -1, -1, -1, -1, -1, 0};
        long[] b = {5, 1, 0, 0, 0, 0, 0, 0, 0, 0, 0, 0, 0, 0, 0};
        long[] other = {0, 2, 0, 0, 0, 0, 0, 0, 0, 0, 0, 0, 0, 0, 0};
        long[] end = {0, 0, 0, -1, 1, 1, 64, 1};
        Talk x = twoWords();
        x.cite(1);
        x.cite(0);
        x.withdraw(0);
        Check.due("digest without the first", x.digest(),
                wrapped(unbounded(listOf(talk, words, turn, other, b, other, other, other, end))));
    }

    /** "64 times agreement() (that product cut to a whole number)": toward 0, on both sides of it. */
    private static void productsAreCut() {
        dueOfCodes("64", 64, new int[][] {{1, 1}, {2, 2}, {3, 3}});
        dueOfCodes("-18 and 2 of 7", -18, new int[][] {{1, 2}, {2, 1}, {0, 3}});
        dueOfCodes("9 and 1 of 7", 9, new int[][] {{1, 2}, {2, 2}, {4, 0}});
        dueOfCodes("-64", -64, new int[][] {{1, 2}, {2, 1}});
        dueOfCodes("0", 0, new int[][] {{1, 2}});
        dueOfCodes("32", 32, new int[][] {{2, 2}, {2, 2}, {3, 2}, {3, 3}});
        dueOfCodes("36 and 4 of 7", 36, new int[][] {{1, 1}, {2, 3}, {0, 0}});
    }

    private static void dueOfCodes(String name, long due, int[][] codes) {
        Talk x = new Talk();
        for (int turn = 0; turn < codes.length; turn++) {
            x.say(turn, turn * 100, 5, 0, -1);
            x.code(0, turn, codes[turn][0]);
            x.code(1, turn, codes[turn][1]);
        }
        List<Long> values = answers(x);
        values.set(values.size() - 2, due);
        Check.due("digest by " + name, x.digest(), wrapped(unbounded(values)));
    }

    /** What the object itself answers, in the order of the document. */
    private static List<Long> answers(Talk x) {
        List<Long> all = new ArrayList<>();
        for (int what = 0; what <= 21; what++) {
            all.add((long) x.talk(what));
        }
        for (int word = 0; word < x.talk(0); word++) {
            for (int what : new int[] {1, 5, 6, 7}) {
                all.add((long) x.ofWord(word, what));
            }
        }
        for (int turn = 0; turn < x.talk(3); turn++) {
            for (int what = 0; what <= 15; what++) {
                all.add((long) x.ofTurn(turn, what));
            }
            for (int what = 0; what <= 2; what++) {
                all.add((long) x.ofQuestion(turn, what));
            }
        }
        for (int speaker = 0; speaker <= 4; speaker++) {
            addSpeaker(all, x, speaker);
        }
        all.add((long) x.test(false));
        all.add((long) x.test(true));
        for (int cite = 0; cite < x.talk(19); cite++) {
            all.add((long) x.cited(cite));
        }
        all.add((long) x.bestRest(false));
        all.add((long) x.bestRest(true));
        all.add((long) (64 * x.agreement()));
        all.add(x.isSound() ? 1L : 0L);
        return all;
    }

    private static void addSpeaker(List<Long> all, Talk x, int speaker) {
        all.add((long) x.said(speaker));
        all.add((long) x.wouldCome(speaker));
        all.add((long) x.bestShift(speaker));
        for (int other = 0; other <= 4; other++) {
            for (int what = 0; other != speaker && what <= 2; what++) {
                all.add((long) x.between(speaker, other, what));
            }
        }
    }

    private static void dueDigest(String name, Talk x) {
        Check.due("digest, " + name, x.digest(), wrapped(unbounded(answers(x))));
    }

    private static void ofMoreAndMore() {
        Talk x = new Talk().say(0, 0, 10, 5, 1);
        dueDigest("a question", x);
        x.say(1, 14, 5, 2, -1).say(1, 20, 5, 1, 3).say(2, 23, 5, 3, -1).say(2, 29, 9, 6, -1).say(3, 45, 5, 0, -1);
        x.say(0, 60, 5, 0, -1);
        dueDigest("more", x);
        x.code(0, 0, 1);
        x.code(1, 0, 2);
        dueDigest("codes", x);
        x.cite(2);
        x.cite(0);
        x.call();
        dueDigest("cites", x);
        x.shift(2, -40);
        dueDigest("a shift", x);
        x.withdraw(0);
        dueDigest("one withdrawn", x);
        x.rest(30);
        dueDigest("a rest", x);
    }

    private static void ofCloseWords() {
        Talk close = new Talk();
        for (int word = 0; word < 40; word++) {
            close.say(word % 3, word * 5, 7, word % 7, (word + 1) % 3);
            dueDigest("close " + word, close);
        }
        close.rest(1);
        dueDigest("close, by a rest of 1", close);
        Check.due("some are smooth", close.test(false) > 0, true);
        Check.due("some are smooth, shuffled", close.test(true) > 0, true);
    }

    private static void ofAllThatIsFull() {
        Talk x = new Talk();
        for (int word = 0; word < 120; word++) {
            x.say(word % 5, word * 7, 10, word * 11 % 7, (word + 1 + word % 4) % 5);
        }
        dueDigest("120 words", x);
        for (int cite = 0; cite < 20; cite++) {
            x.cite(cite);
            x.code(0, cite, cite % 5);
            x.code(1, cite, cite % 3);
        }
        for (int speaker = 0; speaker <= 4; speaker++) {
            x.shift(speaker, 100 - 50 * speaker);
        }
        dueDigest("20 cites", x);
        Check.due("beyond 64 bits", unbounded(answers(x)).bitLength() > 5000, true);
        x.rest(30);
        dueDigest("120 words by a rest of 30", x);
    }
}
