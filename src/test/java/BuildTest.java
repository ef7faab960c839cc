/** Promises 1 to 4: a new object, clock, link, grade. */
public final class BuildTest {
    private BuildTest() {
    }

    public static void main(String[] args) {
        newObjectIsEmpty();
        clocksAreNumbered();
        clockRefusesWrongNumbers();
        clockRefusesANinth();
        linksAreNumbered();
        linkRefusesInOrder();
        ordinaryClockHasOneLink();
        linkRefusesAnEleventh();
        delaysGoTheirWay();
        gradeCountsFromNextDecision();
        gradeChangesDrift();
        gradeRefuses();
        Check.end("BuildTest");
    }

    private static void newObjectIsEmpty() {
        ClockNet x = new ClockNet();
        Check.due("new: count(0)", x.count(0), 0);
        Check.due("new: count(1)", x.count(1), 0);
        Check.due("new: count(2)", x.count(2), 0);
        Check.noSuch("new: reading(0)", () -> x.reading(0));
        Check.noSuch("new: join(0, true)", () -> x.join(0, true));
        Check.noSuch("new: port(0, 0)", () -> x.port(0, 0));
        Check.due("new: message(0, 0)", x.message(0, 0), -1);
        Check.due("new: tick()", x.tick(), 0);
        Check.due("new: count(2) after a tick", x.count(2), 1);
    }

    private static void clocksAreNumbered() {
        ClockNet x = new ClockNet();
        for (int c = 0; c < 8; c++) {
            Check.due("clock " + c, x.clock(c % 3, c == 0 ? 0 : 255, c == 0 ? 255 : 0, c % 2 == 0 ? -50 : 50), c);
            Check.due("reading of a new clock", x.reading(c), 0);
            Check.due("best of a new clock", x.look(c, 0), c);
            Check.due("steps of a new clock", x.look(c, 1), 0);
            Check.due("slave of a new clock", x.look(c, 2), -1);
            int n = c;
            Check.badState("a new clock is up", () -> x.power(n, true));
        }
        x.tick();
        Check.due("reading with drift -50", x.reading(0), 950);
        Check.due("reading with drift 50", x.reading(1), 1050);
        Check.due("reading of a transparent clock", x.reading(2), 950);
    }

    private static void clockRefusesWrongNumbers() {
        ClockNet x = new ClockNet();
        Check.badArgument("kind -1", () -> x.clock(-1, 0, 0, 0));
        Check.badArgument("kind 3", () -> x.clock(3, 0, 0, 0));
        Check.badArgument("priority -1", () -> x.clock(0, -1, 0, 0));
        Check.badArgument("priority 256", () -> x.clock(0, 256, 0, 0));
        Check.badArgument("class -1", () -> x.clock(0, 0, -1, 0));
        Check.badArgument("class 256", () -> x.clock(0, 0, 256, 0));
        Check.badArgument("drift -51", () -> x.clock(0, 0, 0, -51));
        Check.badArgument("drift 51", () -> x.clock(0, 0, 0, 51));
        Check.due("first clock after refusals", x.clock(0, 0, 0, 0), 0);
    }

    private static void clockRefusesANinth() {
        ClockNet x = new ClockNet();
        for (int c = 0; c < 8; c++) {
            x.clock(1, 0, 0, 0);
        }
        Check.badState("ninth clock", () -> x.clock(1, 0, 0, 0));
        Check.badArgument("ninth clock, wrong kind", () -> x.clock(3, 0, 0, 0));
        Check.badArgument("ninth clock, wrong drift", () -> x.clock(0, 0, 0, 51));
        Check.noSuch("reading(8)", () -> x.reading(8));
    }

    private static void linksAreNumbered() {
        ClockNet x = new ClockNet();
        x.clock(1, 1, 1, 0);
        x.clock(1, 2, 1, 0);
        Check.due("first link", x.link(0, 1, 1, 5), 0);
        Check.due("second link of the same clocks", x.link(1, 0, 5, 1), 1);
        Check.due("state of a new port", x.port(0, 0), 0);
        Check.due("state of a new port", x.port(1, 1), 0);
        Check.due("nothing heard at a new port", x.heard(0, 0, 0), -1);
        Check.badState("a new link is up", () -> x.join(0, true));
    }

    private static void linkRefusesInOrder() {
        ClockNet x = new ClockNet();
        x.clock(1, 1, 1, 0);
        x.clock(1, 2, 1, 0);
        Check.noSuch("no clock a, wrong delay", () -> x.link(2, 0, 0, 0));
        Check.noSuch("no clock b, wrong delay", () -> x.link(0, 2, 0, 0));
        Check.noSuch("clock -1", () -> x.link(-1, 0, 1, 1));
        Check.noSuch("no clock twice", () -> x.link(2, 2, 1, 1));
        Check.badArgument("a is b", () -> x.link(1, 1, 1, 1));
        Check.badArgument("there 0", () -> x.link(0, 1, 0, 1));
        Check.badArgument("there 6", () -> x.link(0, 1, 6, 1));
        Check.badArgument("back 0", () -> x.link(0, 1, 1, 0));
        Check.badArgument("back 6", () -> x.link(0, 1, 1, 6));
        Check.due("first link after refusals", x.link(0, 1, 1, 1), 0);
    }

    private static void ordinaryClockHasOneLink() {
        ClockNet x = new ClockNet();
        x.clock(0, 1, 1, 0);
        x.clock(1, 2, 1, 0);
        x.clock(0, 3, 1, 0);
        x.clock(2, 3, 1, 0);
        Check.due("first link of an ordinary clock", x.link(0, 1, 1, 1), 0);
        Check.badState("second link, ordinary first", () -> x.link(0, 2, 1, 1));
        Check.badState("second link, ordinary second", () -> x.link(2, 0, 1, 1));
        Check.badArgument("second link, a is b", () -> x.link(0, 0, 1, 1));
        Check.badArgument("second link, wrong delay", () -> x.link(0, 2, 1, 6));
        x.join(0, false);
        Check.badState("a link that is down counts", () -> x.link(0, 1, 1, 1));
        Check.due("link of the other ordinary clock", x.link(1, 2, 1, 1), 1);
        Check.due("a transparent clock has links", x.link(1, 3, 1, 1), 2);
        Check.due("a transparent clock has more links", x.link(3, 1, 1, 1), 3);
    }

    private static void linkRefusesAnEleventh() {
        ClockNet x = new ClockNet();
        x.clock(1, 1, 1, 0);
        x.clock(1, 2, 1, 0);
        for (int l = 0; l < 10; l++) {
            Check.due("link " + l, x.link(0, 1, 1, 1), l);
        }
        Check.badState("eleventh link", () -> x.link(0, 1, 1, 1));
        Check.badArgument("eleventh link, wrong delay", () -> x.link(0, 1, 0, 1));
        Check.noSuch("eleventh link, no clock", () -> x.link(0, 2, 0, 1));
        Check.noSuch("join(10, false)", () -> x.join(10, false));
    }

    private static void delaysGoTheirWay() {
        ClockNet x = new ClockNet();
        x.clock(0, 1, 1, 0);
        x.clock(0, 2, 1, 0);
        x.link(0, 1, 2, 5);
        Nets.ticks(x, 2);
        Check.due("sender of the first message", x.message(0, 1), 0);
        Check.due("it goes to", x.message(0, 6), 1);
        Check.due("it comes", x.message(0, 7), 4);
        Check.due("sender of the third message", x.message(2, 1), 1);
        Check.due("it goes to", x.message(2, 6), 0);
        Check.due("it comes", x.message(2, 7), 7);
    }

    private static ClockNet pair() {
        ClockNet x = new ClockNet();
        x.clock(0, 10, 6, 0);
        x.clock(0, 20, 6, 0);
        x.link(0, 1, 1, 1);
        Nets.ticks(x, 6);
        return x;
    }

    private static void gradeCountsFromNextDecision() {
        ClockNet x = pair();
        Check.due("clock 1 follows 0", x.look(1, 0), 0);
        x.grade(1, 10, 5, 0);
        Check.due("best before the decision", x.look(1, 0), 0);
        Check.due("state before the decision", x.port(1, 0), 2);
        x.tick();
        Check.due("best after the decision", x.look(1, 0), 1);
        Check.due("slave after the decision", x.look(1, 2), -1);
        Check.due("state after the decision", x.port(1, 0), 1);
        x.power(0, false);
        x.grade(0, 1, 1, 0);
        x.power(0, true);
        Nets.ticks(x, 6);
        Check.due("numbers given while it was down", x.look(1, 0), 0);
        Check.due("priority heard", x.heard(1, 0, 0), 1);
        Check.due("class heard", x.heard(1, 0, 1), 1);
    }

    private static void gradeChangesDrift() {
        ClockNet x = new ClockNet();
        x.clock(2, 1, 1, 0);
        x.clock(0, 1, 1, 0);
        x.grade(0, 1, 1, -50);
        x.grade(1, 255, 255, 50);
        x.tick();
        Check.due("reading with another drift", x.reading(0), 950);
        Check.due("reading with another drift", x.reading(1), 1050);
        x.clock(1, 1, 1, 0);
        x.link(0, 2, 1, 1);
        Check.noSuch("the kind stays", () -> x.port(0, 0));
    }

    private static void gradeRefuses() {
        ClockNet x = pair();
        Check.noSuch("grade(2), wrong numbers", () -> x.grade(2, 256, 0, 0));
        Check.noSuch("grade(-1)", () -> x.grade(-1, 0, 0, 0));
        Check.badArgument("priority -1", () -> x.grade(1, -1, 0, 0));
        Check.badArgument("priority 256", () -> x.grade(1, 256, 0, 0));
        Check.badArgument("class -1", () -> x.grade(1, 0, -1, 0));
        Check.badArgument("class 256", () -> x.grade(1, 0, 256, 0));
        Check.badArgument("drift -51", () -> x.grade(1, 0, 0, -51));
        Check.badArgument("drift 51", () -> x.grade(1, 0, 0, 51));
        x.tick();
        Check.due("a refused grade changes nothing", x.look(1, 0), 0);
    }
}
