import java.util.NoSuchElementException;
import java.util.Random;

/** Any calls in any order: what throws is an exception of the document and changes nothing, and limits hold. */
public final class AnyCallTest {
    private static final int RUNS = 150;
    private static final int CALLS = 180;
    private static final String REFUSED = "refused";

    private AnyCallTest() {
    }

    public static void main(String[] args) {
        for (int seed = 0; seed < RUNS; seed++) {
            check(seed);
        }
        Check.end("AnyCallTest");
    }

    private static void check(int seed) {
        String[] first = new String[CALLS];
        ClockNet x = play(seed, new boolean[CALLS], first);
        Check.holds("run " + seed + ": on links at most 60", x.count(0) <= 60);
        String[] again = new String[CALLS];
        play(seed, new boolean[CALLS], again);
        boolean[] left = new boolean[CALLS];
        for (int i = 0; i < CALLS; i++) {
            left[i] = first[i].equals(REFUSED);
        }
        String[] without = new String[CALLS];
        play(seed, left, without);
        for (int i = 0; i < CALLS; i++) {
            Check.holds("run " + seed + ", call " + i + ": made again the same", first[i].equals(again[i]));
            Check.holds("run " + seed + ", call " + i + ": the same without what was refused",
                    left[i] || first[i].equals(without[i]));
        }
        Picture.same("run " + seed, () -> play(seed, new boolean[CALLS], new String[CALLS]),
                () -> play(seed, left, new String[CALLS]));
    }

    /** A new object after the calls of a run but those that are left out; call i is the same whatever is left out. */
    private static ClockNet play(int seed, boolean[] left, String[] answers) {
        ClockNet x = new ClockNet();
        for (int i = 0; i < CALLS; i++) {
            Random random = new Random(seed * 100003L + i);
            random.nextInt();
            int kind = i < 30 ? random.nextInt(3) : random.nextInt(40);
            answers[i] = left[i] ? REFUSED : answer(x, kind, random);
        }
        return x;
    }

    private static String answer(ClockNet x, int kind, Random random) {
        try {
            return call(x, kind, random);
        } catch (NoSuchElementException | IllegalArgumentException | IllegalStateException e) {
            return REFUSED;
        }
    }

    private static int odd(Random random, int bound) {
        int n = random.nextInt(bound + 30);
        if (n < bound) {
            return n;
        }
        return n % 7 == 0 ? Integer.MIN_VALUE : n % 7 == 1 ? Integer.MAX_VALUE : n % 7 == 2 ? -1 : n % bound;
    }

    private static String call(ClockNet x, int kind, Random r) {
        switch (kind) {
            case 0:
                return "" + x.clock(odd(r, 3), odd(r, 256), odd(r, 256), odd(r, 101) - 50);
            case 1:
            case 2:
                return "" + x.link(odd(r, 8), odd(r, 8), odd(r, 5) + 1, odd(r, 5) + 1);
            case 3:
            case 4:
            case 5:
            case 6:
            case 7:
                change(x, kind, r);
                return "";
            case 8:
                return "" + x.port(odd(r, 8), odd(r, 10));
            case 9:
                return "" + x.heard(odd(r, 8), odd(r, 10), odd(r, 6));
            case 10:
                return "" + x.look(odd(r, 8), odd(r, 6));
            case 11:
                return "" + x.apart(odd(r, 8), odd(r, 8));
            case 12:
                return "" + x.message(odd(r, 60), odd(r, 8));
            case 13:
                return "" + x.stamp(odd(r, 60), r.nextBoolean());
            case 14:
                return "" + x.count(odd(r, 3));
            case 15:
                return "" + x.reading(odd(r, 8));
            case 16:
                return "" + x.mean(odd(r, 8));
            case 17:
                return "" + x.sum(odd(r, 8));
            default:
                return "" + x.tick();
        }
    }

    private static void change(ClockNet x, int kind, Random r) {
        switch (kind) {
            case 3:
                x.grade(odd(r, 8), odd(r, 256), odd(r, 256), odd(r, 101) - 50);
                break;
            case 4:
                x.power(odd(r, 8), r.nextInt(3) > 0);
                break;
            case 5:
                x.join(odd(r, 10), r.nextInt(3) > 0);
                break;
            case 6:
                x.lose(odd(r, 60));
                break;
            default:
                x.set(odd(r, 8), r.nextInt(4) == 0 ? r.nextLong() : r.nextInt(1000000));
        }
    }
}
