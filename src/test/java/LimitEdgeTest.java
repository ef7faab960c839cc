import java.util.function.Supplier;

/** The sentences of 'Terms' that say how many and how large, and what there is at first: each has its test. */
public final class LimitEdgeTest {
    private static final int[] NO_BYTES = {-1, 256, Integer.MIN_VALUE, Integer.MAX_VALUE};

    private LimitEdgeTest() {
    }

    public static void main(String[] args) {
        Check.sentence("NOW is 0 at first; it counts TICKS.", LimitEdgeTest::nowCountsTicks);
        Check.sentence("CLOCKS 0, 1, .. (at most 8)", LimitEdgeTest::clocksAtMostEight);
        Check.sentence("have a KIND: 0 ORDINARY, 1 BOUNDARY, 2 TRANSPARENT", LimitEdgeTest::threeKinds);
        Check.sentence("a PRIORITY 0 .. 255", LimitEdgeTest::priorities);
        Check.sentence("and a CLASS 0 .. 255", LimitEdgeTest::classes);
        Check.sentence("a DRIFT -50 .. 50", LimitEdgeTest::drifts);
        Check.sentence("and are up (at first) or down", LimitEdgeTest::clocksAreUpAtFirst);
        Check.sentence("A clock's READING is a long, 0 at first", LimitEdgeTest::readingIsALong);
        Check.sentence("in a tick in which it should grow by 1000 it grows by 1000 + DRIFT + ADJUST",
                LimitEdgeTest::readingsGrow);
        Check.sentence("also when it is down", LimitEdgeTest::readingsGrowWhenDown);
        Check.sentence("ADJUST is an int, 0 at first.", LimitEdgeTest::adjustIsZeroAtFirst);
        Check.sentence("LINKS 0, 1, .. (at most 10) join two clocks", LimitEdgeTest::linksAtMostTen);
        Check.sentence("with a DELAY 1 .. 5 in ticks each way", LimitEdgeTest::delays);
        Check.sentence("they are up (at first) or down", LimitEdgeTest::linksAreUpAtFirst);
        Check.sentence("An ordinary clock has at most one link.", LimitEdgeTest::ordinaryAtMostOneLink);
        Check.sentence("A PORT is a clock that is not transparent and one of its links.", LimitEdgeTest::whatAPortIs);
        Check.sentence("A port has a STATE: 0 LISTENING (at first), 1 MASTER, 2 SLAVE, 3 PASSIVE",
                LimitEdgeTest::fourStates);
        Check.sentence("and perhaps a HEARD grade, with a time", LimitEdgeTest::nothingHeardAtFirst);
        Check.sentence("a MEAN delay (a float), whether it has one (at first not); a SUM (a float, 0 at first)",
                LimitEdgeTest::noMeanAtFirst);
        Check.sentence("the SENT time and number of its latest request, which may be OPEN",
                LimitEdgeTest::noRequestAtFirst);
        Check.end("LimitEdgeTest");
    }

    private static void nowCountsTicks() {
        ClockNet x = Nets.pair(0);
        Check.due("count(2) at first", x.count(2), 0);
        x.tick();
        Check.due("count(2) after a tick", x.count(2), 1);
        x.set(0, 5);
        x.grade(0, 1, 1, 1);
        x.power(0, false);
        x.join(0, false);
        Check.badState("join(0, false)", () -> x.join(0, false));
        Check.due("count(2) after other calls", x.count(2), 1);
        x.tick();
        Check.due("count(2) after the next tick", x.count(2), 2);
    }

    private static ClockNet clocks(int n) {
        ClockNet x = new ClockNet();
        for (int c = 0; c < n; c++) {
            x.clock(1, 0, 0, 0);
        }
        return x;
    }

    private static void clocksAtMostEight() {
        ClockNet x = new ClockNet();
        for (int c = 0; c < 8; c++) {
            Check.due("clock " + c, x.clock(c % 3, 0, 0, 0), c);
        }
        Check.due("reading(7)", x.reading(7), 0);
        Check.noSuch("reading(8)", () -> x.reading(8));
        Check.due("the eighth", clocks(7).clock(0, 0, 0, 0), 7);
        for (int kind = 0; kind < 3; kind++) {
            int k = kind;
            Refused.badState("a ninth of kind " + k, () -> clocks(8), y -> y.clock(k, 0, 0, 0));
        }
    }

    private static void threeKinds() {
        for (int kind = 0; kind < 3; kind++) {
            Check.due("kind " + kind, clocks(2).clock(kind, 0, 0, 0), 2);
        }
        for (int kind : new int[] {-1, 3, 9, Integer.MIN_VALUE, Integer.MAX_VALUE}) {
            Refused.badArgument("kind " + kind, () -> clocks(2), y -> y.clock(kind, 0, 0, 0));
        }
        Check.badState("a second link of kind 0", () -> twoLinks(0));
        Check.due("a port of kind 1", twoLinks(1).port(0, 1), 0);
        Check.noSuch("a port of kind 2", () -> twoLinks(2).port(0, 1));
    }

    private static ClockNet twoLinks(int kind) {
        ClockNet x = new ClockNet();
        x.clock(kind, 0, 0, 0);
        x.clock(1, 0, 0, 0);
        x.link(0, 1, 1, 1);
        x.link(1, 0, 1, 1);
        return x;
    }

    /** Two clocks whose numbers are given by clock(), or, the same, later by grade(). */
    private static ClockNet graded(int priority0, int class0, int priority1, int class1, boolean later) {
        ClockNet x = new ClockNet();
        x.clock(0, later ? 7 : priority0, later ? 7 : class0, 0);
        x.clock(0, later ? 7 : priority1, later ? 7 : class1, 0);
        x.link(0, 1, 1, 1);
        if (later) {
            x.grade(0, priority0, class0, 0);
            x.grade(1, priority1, class1, 0);
        }
        return Nets.ticks(x, 5);
    }

    private static void priorities() {
        for (boolean later : new boolean[] {false, true}) {
            ClockNet x = graded(255, 3, 0, 4, later);
            Check.due("priority 255, as heard", x.heard(1, 0, 0), 255);
            Check.due("priority 0, as heard", x.heard(0, 0, 0), 0);
            Check.due("0 is the best", x.look(0, 0), 1);
            Check.due("0 is the best", x.look(1, 0), 1);
        }
        Check.due("254 before 255", graded(255, 0, 254, 9, false).look(0, 0), 1);
        for (int p : NO_BYTES) {
            Refused.badArgument("clock with priority " + p, () -> clocks(3), y -> y.clock(0, p, 0, 0));
            Refused.badArgument("grade with priority " + p, () -> Nets.pair(7), y -> y.grade(1, p, 0, 0));
        }
    }

    private static void classes() {
        for (boolean later : new boolean[] {false, true}) {
            ClockNet x = graded(3, 255, 3, 0, later);
            Check.due("class 255, as heard", x.heard(1, 0, 1), 255);
            Check.due("class 0, as heard", x.heard(0, 0, 1), 0);
            Check.due("0 is the best", x.look(0, 0), 1);
            Check.due("0 is the best", x.look(1, 0), 1);
        }
        Check.due("254 before 255", graded(0, 255, 0, 254, false).look(0, 0), 1);
        for (int k : NO_BYTES) {
            Refused.badArgument("clock with class " + k, () -> clocks(3), y -> y.clock(0, 0, k, 0));
            Refused.badArgument("grade with class " + k, () -> Nets.pair(7), y -> y.grade(1, 0, k, 0));
        }
    }

    private static void drifts() {
        for (int d : new int[] {-50, -49, -1, 0, 1, 49, 50}) {
            ClockNet x = new ClockNet();
            x.clock(0, 0, 0, d);
            x.tick();
            Check.due("a tick with drift " + d, x.reading(0), 1000 + d);
            ClockNet y = clocks(1);
            y.grade(0, 0, 0, d);
            // What the first tick after grade() grows by is left aside here.
            y.tick();
            y.set(0, 0);
            y.tick();
            Check.due("a tick with drift " + d + " by grade()", y.reading(0), 1000 + d);
        }
        for (int d : new int[] {-51, 51, Integer.MIN_VALUE, Integer.MAX_VALUE}) {
            Refused.badArgument("clock with drift " + d, () -> clocks(3), y -> y.clock(0, 0, 0, d));
            Refused.badArgument("grade with drift " + d, () -> Nets.pair(7), y -> y.grade(1, 0, 0, d));
        }
    }

    private static void clocksAreUpAtFirst() {
        for (int kind = 0; kind < 3; kind++) {
            int k = kind;
            Supplier<ClockNet> one = () -> {
                ClockNet x = new ClockNet();
                x.clock(k, 0, 0, 0);
                return x;
            };
            Refused.badState("power(0, true) at first, kind " + k, one, x -> x.power(0, true));
            ClockNet x = one.get();
            x.power(0, false);
            Check.badState("down already", () -> x.power(0, false));
            x.power(0, true);
            Check.badState("up already", () -> x.power(0, true));
        }
    }

    private static void readingIsALong() {
        for (int kind = 0; kind < 3; kind++) {
            ClockNet x = new ClockNet();
            x.clock(kind, 0, 0, 50);
            Check.due("reading at first, kind " + kind, x.reading(0), 0);
            x.set(0, Integer.MAX_VALUE);
            x.tick();
            Check.due("beyond an int, kind " + kind, x.reading(0), Integer.MAX_VALUE + 1050L);
            x.set(0, Integer.MIN_VALUE - 2000L);
            x.tick();
            Check.due("below an int, kind " + kind, x.reading(0), Integer.MIN_VALUE - 950L);
        }
        ClockNet late = Nets.pair(9);
        Check.due("a clock that is made later", late.clock(0, 0, 0, 0), 2);
        Check.due("its reading", late.reading(2), 0);
    }

    /** Both clocks drift alike, and at tick 15 clock 1 has just been steered by the error that its reading makes. */
    private static ClockNet steered(int drift, long reading) {
        ClockNet x = new ClockNet();
        x.clock(0, 10, 6, drift);
        x.clock(0, 20, 6, drift);
        x.link(0, 1, 3, 1);
        Nets.ticks(x, 14);
        x.set(1, reading);
        x.tick();
        return x;
    }

    private static void readingsGrow() {
        // LAG is 3 * 950 and BACK 950, so the mean is 1900; the lag at 15 is 17350 + 950 - 12 * 950.
        ClockNet least = steered(-50, 17350);
        Check.due("the least ADJUST", least.look(1, 3), -400);
        Check.due("before", least.reading(1), 18300);
        least.tick();
        Check.due("the least that a reading grows by is 550", least.reading(1), 18850);
        Check.due("the other one's", least.reading(0), 16 * 950);
        ClockNet most = steered(50, 8650);
        Check.due("the most ADJUST", most.look(1, 3), 400);
        Check.due("before", most.reading(1), 9700);
        most.tick();
        Check.due("the most that a reading grows by is 1450", most.reading(1), 11150);
    }

    private static void readingsGrowWhenDown() {
        ClockNet x = steered(50, 8650);
        x.power(1, false);
        x.tick();
        Check.due("down, without ADJUST", x.reading(1), 9700 + 1050);
        ClockNet y = new ClockNet();
        y.clock(2, 0, 0, -50);
        y.power(0, false);
        Nets.ticks(y, 3);
        Check.due("a transparent one that is down", y.reading(0), 3 * 950);
    }

    private static void adjustIsZeroAtFirst() {
        for (int kind = 0; kind < 3; kind++) {
            ClockNet x = new ClockNet();
            x.clock(kind, 0, 0, 0);
            Check.due("ADJUST at first, kind " + kind, x.look(0, 3), 0);
            x.tick();
            Check.due("the first tick, kind " + kind, x.reading(0), 1000);
            Check.due("ADJUST after it, kind " + kind, x.look(0, 3), 0);
        }
    }

    private static void linksAtMostTen() {
        ClockNet x = clocks(2);
        for (int l = 0; l < 10; l++) {
            Check.due("link " + l, x.link(l % 2, 1 - l % 2, 1, 1), l);
        }
        Check.due("a port of the tenth", x.port(0, 9), 0);
        Check.noSuch("a port of an eleventh", () -> x.port(0, 10));
        x.join(9, false);
        Check.noSuch("join(10, false)", () -> x.join(10, false));
        Refused.badState("an eleventh link", () -> Nets.cable(10, 1, 1), y -> y.link(0, 1, 1, 1));
        Refused.badState("an eleventh link when one is down", LimitEdgeTest::tenWithOneDown, y -> y.link(0, 1, 1, 1));
    }

    private static ClockNet tenWithOneDown() {
        ClockNet x = Nets.cable(10, 1, 1);
        x.join(9, false);
        return x;
    }

    private static void delays() {
        for (int d = 1; d <= 5; d++) {
            delayIs(d, 6 - d);
        }
        for (int d : new int[] {0, 6, -1, Integer.MIN_VALUE, Integer.MAX_VALUE}) {
            Refused.badArgument("there " + d, () -> clocks(2), y -> y.link(0, 1, d, 1));
            Refused.badArgument("back " + d, () -> clocks(2), y -> y.link(0, 1, 1, d));
        }
    }

    private static void delayIs(int there, int back) {
        ClockNet x = Nets.cable(1, there, back);
        Nets.ticks(x, 2);
        Check.due("there " + there, x.message(Nets.find(x, Nets.SYNC, 0), 7), 2 + there);
        Check.due("back " + back, x.message(Nets.find(x, Nets.SYNC, 1), 7), 2 + back);
    }

    private static void linksAreUpAtFirst() {
        Refused.badState("join(0, true) at first", () -> Nets.pair(0), x -> x.join(0, true));
        ClockNet x = Nets.pair(0);
        x.join(0, false);
        Check.badState("down already", () -> x.join(0, false));
        x.join(0, true);
        Check.badState("up already", () -> x.join(0, true));
    }

    /** Ordinary clocks 0 and 1, a boundary clock 2 and a transparent clock 3; clock 0 has a link to clock 2. */
    private static ClockNet oneTaken() {
        ClockNet x = new ClockNet();
        x.clock(0, 1, 0, 0);
        x.clock(0, 2, 0, 0);
        x.clock(1, 3, 0, 0);
        x.clock(2, 4, 0, 0);
        x.link(0, 2, 1, 1);
        return x;
    }

    private static ClockNet oneTakenAndDown() {
        ClockNet x = oneTaken();
        x.join(0, false);
        return x;
    }

    private static void ordinaryAtMostOneLink() {
        Check.due("the one link of clock 1, from it", oneTaken().link(1, 2, 1, 1), 1);
        Check.due("the one link of clock 1, to it", oneTaken().link(2, 1, 1, 1), 1);
        Check.due("more links of the others", oneTaken().link(2, 3, 1, 1), 1);
        Check.due("two links at a transparent one", twoLinks(2).link(0, 1, 1, 1), 2);
        for (int other = 1; other < 4; other++) {
            int o = other;
            Refused.badState("a second link of clock 0, to " + o, LimitEdgeTest::oneTaken, y -> y.link(0, o, 1, 1));
            Refused.badState("a second link of clock 0, from " + o, LimitEdgeTest::oneTaken, y -> y.link(o, 0, 1, 1));
        }
        Refused.badState("a second link when the first is down", LimitEdgeTest::oneTakenAndDown,
                y -> y.link(0, 1, 1, 1));
    }

    private static void whatAPortIs() {
        ClockNet x = Nets.star(0);
        Check.due("an ordinary clock's", x.port(0, 0), 0);
        Check.due("a boundary clock's", Nets.cable(2, 1, 1).port(1, 1), 0);
        Refused.noSuch("a transparent clock's", () -> Nets.star(7), y -> y.port(1, 0));
        Refused.noSuch("another clock's link", () -> Nets.star(7), y -> y.port(0, 1));
        Refused.noSuch("heard by a transparent clock", () -> Nets.star(7), y -> y.heard(1, 0, 0));
        Refused.noSuch("heard on another clock's link", () -> Nets.star(7), y -> y.heard(0, 1, 0));
    }

    private static void fourStates() {
        ClockNet x = Nets.cable(2, 1, 1);
        Check.due("listening at first", x.port(0, 0), 0);
        Check.due("listening at first", x.port(1, 1), 0);
        x.tick();
        Check.due("master", x.port(0, 0), 1);
        Check.due("a new port", x.link(0, 1, 1, 1), 2);
        Check.due("is listening", x.port(0, 2), 0);
        Nets.ticks(x, 4);
        Check.due("slave", x.port(1, 0), 2);
        Check.due("passive", x.port(1, 1), 3);
        Check.due("passive", x.port(1, 2), 3);
    }

    private static void nothingHeardAtFirst() {
        ClockNet x = Nets.pair(0);
        for (int what = 0; what < 6; what++) {
            Check.due("heard at first, what " + what, x.heard(1, 0, what), -1);
        }
        Nets.ticks(x, 4);
        Check.due("before the first announcement comes", x.heard(1, 0, 5), -1);
        x.tick();
        Check.due("when it has come", x.heard(1, 0, 5), 5);
    }

    private static void noMeanAtFirst() {
        for (int kind = 0; kind < 3; kind++) {
            ClockNet x = new ClockNet();
            x.clock(kind, 0, 0, 0);
            Check.due("has a mean at first, kind " + kind, x.look(0, 4), 0);
            Check.dueFloat("mean at first, kind " + kind, x.mean(0), 0.0f);
            Check.dueFloat("sum at first, kind " + kind, x.sum(0), 0.0f);
        }
        ClockNet y = Nets.pair(7);
        Check.due("before the first answer comes", y.look(1, 4), 0);
        y.tick();
        Check.due("when it has come", y.look(1, 4), 1);
        Check.dueFloat("the mean", y.mean(1), 1000.0f);
    }

    private static void noRequestAtFirst() {
        ClockNet x = Nets.pair(0);
        Check.due("open at first", x.look(1, 5), 0);
        Nets.ticks(x, 5);
        Check.due("before it is sent", x.look(1, 5), 0);
        x.tick();
        Check.due("when it is sent", x.look(1, 5), 1);
        x.tick();
        Check.due("while it is not answered", x.look(1, 5), 1);
        x.tick();
        Check.due("when the answer has come", x.look(1, 5), 0);
    }
}
