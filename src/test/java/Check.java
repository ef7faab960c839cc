import java.util.ArrayList;
import java.util.List;
import java.util.NoSuchElementException;

/** What the tests share: each answer that is not the one that is due is printed, and one such makes exit code 1. */
final class Check {
    private static final List<String> QUOTED = new ArrayList<>();
    private static boolean onlyQuotes = false;
    private static String sentence = "";
    private static int made = 0;
    private static int wrong = 0;

    private Check() {
    }

    /** Runs the test of one sentence of the document; whatever it finds wrong is told together with that sentence. */
    static void sentence(String words, Runnable test) {
        QUOTED.add(words);
        if (onlyQuotes) {
            return;
        }
        sentence = words;
        int before = made;
        try {
            test.run();
        } catch (RuntimeException e) {
            tell("threw " + e);
        }
        if (made == before) {
            tell("nothing was checked");
        }
        sentence = "";
    }

    /** The sentences whose tests a table of tests has, of which none is run. */
    static List<String> quotes(Runnable table) {
        QUOTED.clear();
        onlyQuotes = true;
        table.run();
        onlyQuotes = false;
        return new ArrayList<>(QUOTED);
    }

    static void due(String call, long got, long want) {
        made++;
        if (got != want) {
            tell(call + " answered " + got + ", due is " + want);
        }
    }

    static void dueFloat(String call, float got, float want) {
        made++;
        if (Float.compare(got, want) != 0) {
            tell(call + " answered " + got + ", due is " + want);
        }
    }

    static void holds(String what, boolean got) {
        made++;
        if (!got) {
            tell("it does not hold: " + what);
        }
    }

    static void noSuch(String call, Runnable run) {
        refuses(call, NoSuchElementException.class, run);
    }

    static void badArgument(String call, Runnable run) {
        refuses(call, IllegalArgumentException.class, run);
    }

    static void badState(String call, Runnable run) {
        refuses(call, IllegalStateException.class, run);
    }

    static void refuses(String call, Class<?> want, Runnable run) {
        made++;
        Class<?> got = null;
        try {
            run.run();
        } catch (RuntimeException e) {
            got = e.getClass();
        }
        if (got != want) {
            tell(call + " threw " + got + ", due is " + want);
        }
    }

    static void tell(String text) {
        wrong++;
        System.out.println(sentence.isEmpty() ? text : "'" + sentence + "': " + text);
    }

    static void end(String name) {
        if (onlyQuotes) {
            return;
        }
        System.out.println(name + ": " + made + " checks, " + wrong + " wrong");
        if (wrong != 0) {
            System.exit(1);
        }
    }
}
