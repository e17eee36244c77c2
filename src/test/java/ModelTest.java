import java.util.Random;

/** Long runs of calls, made up from fixed seeds, on Turnwright and on PlainTalk: both must answer the same. */
public final class ModelTest {
    private static final int RUNS = 120;
    private static final int CALLS = 512;
    private static final int LAST_CALLS = 2;

    private ModelTest() {
    }

    /** What a run is like: how far its times reach, how long its words are, how often arguments are wrong. */
    private record Style(int times, int lengths, int wrongs, int[] weights) {
    }

    public static void main(String[] args) {
        int[] telling = {40, 2, 3, 0, 3, 2, 1, 3, 3, 2, 2, 2, 1, 1, 1, 1, 1, 1, 2, 2, 2, 1, 1, 1, 1};
        int[] withLeaving = {40, 2, 3, 1, 3, 2, 1, 3, 3, 2, 2, 2, 1, 1, 1, 1, 1, 1, 2, 2, 2, 1, 1, 1, 1};
        int[] coding = {12, 1, 1, 0, 12, 1, 1, 2, 2, 1, 1, 1, 1, 1, 1, 1, 8, 1, 1, 1, 1, 1, 1, 1, 1};
        Style[] styles = {
            new Style(300, 8, 0, telling), new Style(900, 12, 4, telling), new Style(2500, 30, 20, telling),
            new Style(600, 6, 10, withLeaving), new Style(1500, 50, 4, coding), new Style(20000, 50, 30, telling),
            new Style(150, 4, 0, telling), new Style(3000, 50, 0, withLeaving), new Style(400, 3, 0, coding),
        };
        for (int run = 0; run < RUNS; run++) {
            compare(run, styles[run % styles.length]);
        }
        Check.end("ModelTest");
    }

    private static void compare(int run, Style style) {
        Random random = new Random(run);
        Turnwright one = new Turnwright();
        PlainTalk two = new PlainTalk();
        for (int call = 0; call < CALLS - LAST_CALLS; call++) {
            int method = pick(random, style.weights());
            int[] arguments = arguments(random, method, style, two.talk(3), two.talk(0), two.talk(19));
            String got = answer(one, two, method, arguments, true);
            String due = answer(one, two, method, arguments, false);
            Check.due("run " + run + " call " + call + " of method " + method
                    + java.util.Arrays.toString(arguments), got, due);
        }
        Check.due("run " + run + " digest", one.digest(), two.digest());
        Check.due("run " + run + " isSound", one.isSound(), true);
    }

    private static int pick(Random random, int[] weights) {
        int all = 0;
        for (int weight : weights) {
            all += weight;
        }
        int left = random.nextInt(all);
        int method = 0;
        while (left >= weights[method]) {
            left -= weights[method];
            method++;
        }
        return method;
    }

    private static int[] arguments(Random random, int method, Style style, int turns, int words, int cites) {
        int[] arguments = switch (method) {
            case 0 -> wordArguments(random, style);
            case 1 -> new int[] {1 + random.nextInt(30)};
            case 2 -> new int[] {random.nextInt(5), random.nextInt(201) - 100};
            case 4 -> new int[] {random.nextInt(2), random.nextInt(turns + 1), random.nextInt(5)};
            case 5, 18 -> new int[] {random.nextInt(turns + 1)};
            case 7 -> new int[] {random.nextInt(words + 1), random.nextInt(8)};
            case 8 -> new int[] {random.nextInt(turns + 1), random.nextInt(16)};
            case 9 -> new int[] {random.nextInt(turns + 1), random.nextInt(3)};
            case 10 -> new int[] {random.nextInt(22)};
            case 11 -> new int[] {random.nextInt(5), random.nextInt(5), random.nextInt(3)};
            case 12 -> new int[] {random.nextInt(5), random.nextInt(5)};
            case 15, 22 -> new int[] {random.nextInt(2)};
            case 17 -> new int[] {random.nextInt(cites + 1)};
            case 19 -> new int[] {random.nextInt(5), random.nextInt(style.times()), 1 + random.nextInt(50)};
            default -> new int[] {random.nextInt(5)};
        };
        if (style.wrongs() > 0 && random.nextInt(100) < style.wrongs()) {
            int[] odd = {-1, -2, 5, 6, 7, 8, 16, 22, 31, 51, 120, 101, -101, 20001, Integer.MIN_VALUE, Integer.MAX_VALUE};
            arguments[random.nextInt(arguments.length)] = odd[random.nextInt(odd.length)];
        }
        return arguments;
    }

    private static int[] wordArguments(Random random, Style style) {
        int speaker = random.nextInt(5);
        int look = random.nextInt(2) == 0 ? -1 : (speaker + 1 + random.nextInt(4)) % 5;
        int[] kinds = {0, 0, 0, 1, 1, 2, 2, 3, 4, 5, 5, 6};
        return new int[] {speaker, random.nextInt(style.times()), 1 + random.nextInt(style.lengths()),
            kinds[random.nextInt(kinds.length)], look};
    }

    /** The answer, or the exception, as a text. */
    private static String answer(Turnwright one, PlainTalk two, int method, int[] a, boolean isFirst) {
        try {
            return isFirst ? first(one, method, a) : second(two, method, a);
        } catch (RuntimeException e) {
            return e.getClass().getName();
        }
    }

    private static String first(Turnwright x, int method, int[] a) {
        return "" + switch (method) {
            case 0 -> (Object) x.word(a[0], a[1], a[2], a[3], a[4]);
            case 1 -> x.rest(a[0]);
            case 2 -> x.shift(a[0], a[1]);
            case 3 -> x.withdraw(a[0]);
            case 4 -> x.code(a[0], a[1], a[2]);
            case 5 -> x.cite(a[0]);
            case 6 -> x.call();
            case 7 -> x.ofWord(a[0], a[1]);
            case 8 -> x.ofTurn(a[0], a[1]);
            case 9 -> x.ofQuestion(a[0], a[1]);
            case 10 -> x.talk(a[0]);
            case 11 -> x.between(a[0], a[1], a[2]);
            case 12 -> x.mean(a[0], a[1]);
            case 13 -> x.said(a[0]);
            case 14 -> x.floor(a[0]);
            case 15 -> x.test(a[0] == 1);
            case 16 -> x.agreement();
            case 17 -> x.cited(a[0]);
            case 18 -> x.row(a[0]);
            case 19 -> x.fits(a[0], a[1], a[2]);
            case 20 -> x.wouldCome(a[0]);
            case 21 -> x.digest();
            case 22 -> x.bestRest(a[0] == 1);
            case 23 -> x.bestShift(a[0]);
            default -> x.isSound();
        };
    }

    private static String second(PlainTalk x, int method, int[] a) {
        return "" + switch (method) {
            case 0 -> (Object) x.word(a[0], a[1], a[2], a[3], a[4]);
            case 1 -> x.rest(a[0]);
            case 2 -> x.shift(a[0], a[1]);
            case 3 -> x.withdraw(a[0]);
            case 4 -> x.code(a[0], a[1], a[2]);
            case 5 -> x.cite(a[0]);
            case 6 -> x.call();
            case 7 -> x.ofWord(a[0], a[1]);
            case 8 -> x.ofTurn(a[0], a[1]);
            case 9 -> x.ofQuestion(a[0], a[1]);
            case 10 -> x.talk(a[0]);
            case 11 -> x.between(a[0], a[1], a[2]);
            case 12 -> x.mean(a[0], a[1]);
            case 13 -> x.said(a[0]);
            case 14 -> x.floor(a[0]);
            case 15 -> x.test(a[0] == 1);
            case 16 -> x.agreement();
            case 17 -> x.cited(a[0]);
            case 18 -> x.row(a[0]);
            case 19 -> x.fits(a[0], a[1], a[2]);
            case 20 -> x.wouldCome(a[0]);
            case 21 -> x.digest();
            case 22 -> x.bestRest(a[0] == 1);
            case 23 -> x.bestShift(a[0]);
            default -> x.isSound();
        };
    }
}
