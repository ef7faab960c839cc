import java.util.NoSuchElementException;
import java.util.function.Supplier;

/**
 * All that can be seen of a net, in parts. Each part is asked of an object of its own, since the document promises
 * nothing of an object after its 512th call.
 */
final class Picture {
    private static final int PARTS = 7;

    private Picture() {
    }

    /** Tells of it if the two nets differ in what can be seen of them now or some ticks later. */
    static void same(String what, Supplier<ClockNet> one, Supplier<ClockNet> other) {
        for (int part = 0; part < PARTS; part++) {
            String first = part(one.get(), part);
            String second = part(other.get(), part);
            if (!first.equals(second)) {
                Check.tell(what + ": part " + part + " is\n" + first + "\nand without it\n" + second);
            }
        }
    }

    private static String part(ClockNet x, int part) {
        StringBuilder text = new StringBuilder();
        switch (part) {
            case 0:
                counts(x, text);
                messages(x, 0, 3, text);
                break;
            case 1:
                messages(x, 4, 7, text);
                break;
            case 2:
                stamps(x, text);
                break;
            case 3:
                clocks(x, text);
                break;
            case 4:
                ports(x, text);
                break;
            case 5:
                laterTicks(x, 7, text);
                clocks(x, text);
                break;
            default:
                laterTicks(x, 18, text);
                ports(x, text);
                counts(x, text);
        }
        return text.toString();
    }

    /** What is hidden at first (an open sync, a lag, what is up) is seen by what comes of it. */
    private static void laterTicks(ClockNet x, int n, StringBuilder text) {
        for (int i = 0; i < n; i++) {
            text.append(x.tick()).append(' ');
        }
    }

    private static void counts(ClockNet x, StringBuilder text) {
        for (int what = 0; what < 3; what++) {
            text.append(x.count(what)).append(' ');
        }
    }

    private static void messages(ClockNet x, int from, int to, StringBuilder text) {
        int size = x.count(0);
        for (int i = 0; i < size; i++) {
            for (int what = from; what <= to; what++) {
                text.append(x.message(i, what)).append(' ');
            }
            text.append('\n');
        }
    }

    private static void stamps(ClockNet x, StringBuilder text) {
        int size = x.count(0);
        for (int i = 0; i < size; i++) {
            text.append(x.stamp(i, false)).append(' ').append(x.stamp(i, true)).append('\n');
        }
    }

    private static void clocks(ClockNet x, StringBuilder text) {
        for (int c = 0; c < 8; c++) {
            try {
                text.append(x.reading(c)).append(' ').append(x.mean(c)).append(' ').append(x.sum(c));
                for (int what = 0; what < 6; what++) {
                    text.append(' ').append(x.look(c, what));
                }
            } catch (NoSuchElementException e) {
                text.append("none");
            }
            text.append('\n');
        }
    }

    private static void ports(ClockNet x, StringBuilder text) {
        for (int c = 0; c < 8; c++) {
            for (int l = 0; l < 10; l++) {
                port(x, c, l, text);
            }
            text.append('\n');
        }
    }

    private static void port(ClockNet x, int c, int l, StringBuilder text) {
        try {
            text.append(" : ").append(x.port(c, l));
            for (int what = 0; what < 6; what++) {
                text.append(' ').append(x.heard(c, l, what));
            }
        } catch (NoSuchElementException e) {
            text.append("none");
        }
    }
}
