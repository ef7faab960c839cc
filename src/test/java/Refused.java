import java.util.NoSuchElementException;
import java.util.function.Consumer;
import java.util.function.Supplier;

/** Calls that are refused: each throws exactly what is due, and a net that it was made to is as one that it was not. */
final class Refused {
    private Refused() {
    }

    static void noSuch(String call, Supplier<ClockNet> net, Consumer<ClockNet> run) {
        check(call, NoSuchElementException.class, net, run);
    }

    static void badArgument(String call, Supplier<ClockNet> net, Consumer<ClockNet> run) {
        check(call, IllegalArgumentException.class, net, run);
    }

    static void badState(String call, Supplier<ClockNet> net, Consumer<ClockNet> run) {
        check(call, IllegalStateException.class, net, run);
    }

    private static void check(String call, Class<?> due, Supplier<ClockNet> net, Consumer<ClockNet> run) {
        ClockNet x = net.get();
        Check.refuses(call, due, () -> run.accept(x));
        Picture.same(call + " changes the net", () -> afterRefusal(net, run), net);
    }

    private static ClockNet afterRefusal(Supplier<ClockNet> net, Consumer<ClockNet> run) {
        ClockNet x = net.get();
        try {
            run.accept(x);
        } catch (NoSuchElementException | IllegalArgumentException | IllegalStateException e) {
            return x;
        }
        return x;
    }
}
