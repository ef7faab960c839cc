import java.util.NoSuchElementException;

/** What the tests share: each answer that is not the one that is due is printed, and one such makes exit code 1. */
final class Check {
    private static int made = 0;
    private static int wrong = 0;

    private Check() {
    }

    static void due(String call, long got, long want) {
        made++;
        if (got != want) {
            tell(call + " answered " + got + ", due is " + want);
        }
    }

    static void dueFloat(String call, float got, float want) {
        made++;
        if (Float.compare(got, want) != 0) {
            tell(call + " answered " + got + ", due is " + want);
        }
    }

    static void noSuch(String call, Runnable run) {
        refuses(call, NoSuchElementException.class, run);
    }

    static void badArgument(String call, Runnable run) {
        refuses(call, IllegalArgumentException.class, run);
    }

    static void badState(String call, Runnable run) {
        refuses(call, IllegalStateException.class, run);
    }

    private static void refuses(String call, Class<?> want, Runnable run) {
        made++;
        Class<?> got = null;
        try {
            run.run();
        } catch (RuntimeException e) {
            got = e.getClass();
        }
        if (got != want) {
            tell(call + " threw " + got + ", due is " + want);
        }
    }

    static void tell(String text) {
        wrong++;
        System.out.println(text);
    }

    static void ticks(ClockNet x, int n) {
        for (int i = 0; i < n; i++) {
            x.tick();
        }
    }

    /** The place of the first message on links with this type and sender, or -1. */
    static int find(ClockNet x, int type, int sender) {
        for (int i = 0; i < x.count(0); i++) {
            if (x.message(i, 0) == type && x.message(i, 1) == sender) {
                return i;
            }
        }
        return -1;
    }

    /** Loses the first message on links with this type and sender, which must be there. */
    static void loseOne(ClockNet x, int type, int sender) {
        int i = find(x, type, sender);
        if (i < 0) {
            tell("no message of type " + type + " from " + sender + " is on links");
        } else {
            x.lose(i);
        }
    }

    static void end(String name) {
        System.out.println(name + ": " + made + " checks, " + wrong + " wrong");
        if (wrong != 0) {
            System.exit(1);
        }
    }
}
