import java.util.NoSuchElementException;
import java.util.Random;

/** Any calls in any order: what throws is an exception of the document and changes nothing, and limits hold. */
public final class AnyCallTest {
    private static final int RUNS = 40;
    private static final int CALLS = 512;

    private AnyCallTest() {
    }

    public static void main(String[] args) {
        for (int seed = 0; seed < RUNS; seed++) {
            String first = run(seed);
            if (!first.equals(run(seed))) {
                Check.tell("run " + seed + " answers otherwise when it is made again");
            }
        }
        Check.end("AnyCallTest");
    }

    private static String run(int seed) {
        Random random = new Random(seed);
        ClockNet x = new ClockNet();
        StringBuilder answers = new StringBuilder();
        for (int i = 0; i < CALLS; i++) {
            int kind = i < 30 ? random.nextInt(3) : random.nextInt(40);
            String before = picture(x);
            boolean refused = false;
            try {
                call(x, kind, random);
            } catch (NoSuchElementException | IllegalArgumentException | IllegalStateException e) {
                refused = true;
            }
            String after = picture(x);
            if (refused && !before.equals(after)) {
                Check.tell("run " + seed + ", call " + i + " of kind " + kind + " threw and changed something");
            }
            answers.append(after);
        }
        Check.due("run " + seed + ": on links at most 60", x.count(0) <= 60 ? 1 : 0, 1);
        return answers.toString();
    }

    private static int odd(Random random, int bound) {
        int n = random.nextInt(bound + 30);
        if (n < bound) {
            return n;
        }
        return n % 7 == 0 ? Integer.MIN_VALUE : n % 7 == 1 ? Integer.MAX_VALUE : n % 7 == 2 ? -1 : n % bound;
    }

    private static void call(ClockNet x, int kind, Random r) {
        switch (kind) {
            case 0:
                x.clock(odd(r, 3), odd(r, 256), odd(r, 256), odd(r, 101) - 50);
                break;
            case 1:
            case 2:
                x.link(odd(r, 8), odd(r, 8), odd(r, 5) + 1, odd(r, 5) + 1);
                break;
            case 3:
                x.grade(odd(r, 8), odd(r, 256), odd(r, 256), odd(r, 101) - 50);
                break;
            case 4:
                x.power(odd(r, 8), r.nextInt(3) > 0);
                break;
            case 5:
                x.join(odd(r, 10), r.nextInt(3) > 0);
                break;
            case 6:
                x.lose(odd(r, 60));
                break;
            case 7:
                x.set(odd(r, 8), r.nextInt(4) == 0 ? r.nextLong() : r.nextInt(1000000));
                break;
            case 8:
                x.port(odd(r, 8), odd(r, 10));
                break;
            case 9:
                x.heard(odd(r, 8), odd(r, 10), odd(r, 6));
                break;
            case 10:
                x.look(odd(r, 8), odd(r, 6));
                break;
            case 11:
                x.apart(odd(r, 8), odd(r, 8));
                break;
            case 12:
                x.message(odd(r, 60), odd(r, 8));
                break;
            case 13:
                x.stamp(odd(r, 60), r.nextBoolean());
                break;
            case 14:
                x.count(odd(r, 3));
                break;
            default:
                x.tick();
        }
    }

    /** All that can be seen of an object, as a text. */
    private static String picture(ClockNet x) {
        StringBuilder text = new StringBuilder();
        for (int what = 0; what < 3; what++) {
            text.append(x.count(what)).append(' ');
        }
        for (int i = 0; i < x.count(0); i++) {
            for (int what = 0; what < 8; what++) {
                text.append(x.message(i, what)).append(' ');
            }
            text.append(x.stamp(i, false)).append(' ').append(x.stamp(i, true)).append('\n');
        }
        for (int c = 0; c < 8 && pictureOfClock(x, c, text); c++) {
            text.append('\n');
        }
        return text.toString();
    }

    private static boolean pictureOfClock(ClockNet x, int c, StringBuilder text) {
        try {
            text.append(x.reading(c)).append(' ').append(x.mean(c)).append(' ').append(x.sum(c));
        } catch (NoSuchElementException e) {
            return false;
        }
        for (int what = 0; what < 6; what++) {
            text.append(' ').append(x.look(c, what));
        }
        for (int l = 0; l < 10; l++) {
            pictureOfPort(x, c, l, text);
        }
        return true;
    }

    private static void pictureOfPort(ClockNet x, int c, int l, StringBuilder text) {
        try {
            text.append(" : ").append(x.port(c, l));
            for (int what = 0; what < 6; what++) {
                text.append(' ').append(x.heard(c, l, what));
            }
        } catch (NoSuchElementException e) {
            text.append("none");
        }
    }
}
