/** Promises 5 to 8: power, join, lose, set. */
public final class ChangeTest {
    private ChangeTest() {
    }

    public static void main(String[] args) {
        powerDownForgets();
        powerUpForgetsToo();
        downClockGrowsAndLoses();
        powerRefuses();
        joinDownLosesAndCloses();
        joinUpBegins();
        joinLeavesOtherLinks();
        joinRefuses();
        loseTakesOneOut();
        setIsBroughtIn();
        Check.end("ChangeTest");
    }

    /** Clock 1 follows 0 over a link of 3 ticks there and 1 back; at tick 15 it has been steered once. */
    private static ClockNet steered() {
        ClockNet x = new ClockNet();
        x.clock(0, 10, 6, 0);
        x.clock(0, 20, 6, 0);
        x.link(0, 1, 3, 1);
        Nets.ticks(x, 15);
        Check.due("before: slave", x.port(1, 0), 2);
        Check.due("before: adjust", x.look(1, 3), -312);
        Check.dueFloat("before: mean", x.mean(1), 2000.0f);
        Check.dueFloat("before: sum", x.sum(1), 62.5f);
        Check.due("before: request open", x.look(1, 5), 1);
        return x;
    }

    private static void isFresh(String when, ClockNet x, int c) {
        Check.due(when + ": state", x.port(c, 0), 0);
        Check.due(when + ": heard", x.heard(c, 0, 0), -1);
        Check.due(when + ": best", x.look(c, 0), c);
        Check.due(when + ": steps", x.look(c, 1), 0);
        Check.due(when + ": slave", x.look(c, 2), -1);
        Check.due(when + ": adjust", x.look(c, 3), 0);
        Check.due(when + ": has a mean", x.look(c, 4), 0);
        Check.due(when + ": request open", x.look(c, 5), 0);
        Check.dueFloat(when + ": mean", x.mean(c), 0.0f);
        Check.dueFloat(when + ": sum", x.sum(c), 0.0f);
    }

    private static void powerDownForgets() {
        ClockNet x = steered();
        long reading = x.reading(1);
        int onLinks = x.count(0);
        x.power(1, false);
        isFresh("down", x, 1);
        Check.due("down: reading stays", x.reading(1), reading);
        Check.due("down: messages stay on links", x.count(0), onLinks);
        Check.due("down: other clock keeps its port", x.port(0, 0), 1);
        Check.due("down: nothing is lost yet", x.count(1), 0);
        Nets.ticks(x, 1);
        isFresh("down and a tick later", x, 1);
    }

    private static void powerUpForgetsToo() {
        ClockNet x = steered();
        x.power(1, false);
        x.power(1, true);
        isFresh("down and up", x, 1);
        Nets.ticks(x, 1);
        Check.due("up: master again", x.port(1, 0), 1);
        Nets.ticks(x, 3);
        Check.due("up: slave when an announcement comes", x.port(1, 0), 2);
        Check.due("up: no mean yet", x.look(1, 4), 0);
    }

    private static void downClockGrowsAndLoses() {
        ClockNet x = new ClockNet();
        x.clock(0, 10, 6, 0);
        x.clock(0, 20, 6, 30);
        x.link(0, 1, 1, 1);
        x.power(1, false);
        Nets.ticks(x, 2);
        Check.due("a clock that is down sends nothing", x.count(0), 2);
        Check.due("messages that came to it", x.tick(), 2);
        Check.due("are lost", x.count(1), 2);
        Check.due("its reading grows", x.reading(1), 3090);
        Check.due("it decides nothing", x.port(1, 0), 0);
        x.clock(2, 0, 0, 0);
        x.clock(1, 0, 0, 0);
        x.link(2, 3, 1, 1);
        x.power(2, false);
        x.tick();
        Check.due("a master of the other link sends", Nets.find(x, 1, 3) >= 0 ? 1 : 0, 1);
        int lost = x.count(1);
        Check.due("to both", x.tick(), 6);
        Check.due("a transparent clock that is down loses", x.count(1), lost + 6);
    }

    private static void powerRefuses() {
        ClockNet x = steered();
        Check.badState("up already", () -> x.power(1, true));
        Check.due("refused: slave stays", x.port(1, 0), 2);
        Check.due("refused: adjust stays", x.look(1, 3), -312);
        x.power(1, false);
        Check.badState("down already", () -> x.power(1, false));
        Check.noSuch("no clock", () -> x.power(2, true));
        Check.noSuch("clock -1", () -> x.power(-1, false));
    }

    private static void joinDownLosesAndCloses() {
        ClockNet x = steered();
        int onLinks = x.count(0);
        x.join(0, false);
        Check.due("join: none on links", x.count(0), 0);
        Check.due("join: all lost", x.count(1), onLinks);
        Check.due("join: state of the slave", x.port(1, 0), 0);
        Check.due("join: state of the master", x.port(0, 0), 0);
        Check.due("join: slave heard nothing", x.heard(1, 0, 5), -1);
        Check.due("join: master heard nothing", x.heard(0, 0, 5), -1);
        Check.due("join: no slave port", x.look(1, 2), -1);
        Check.dueFloat("join: mean until the decision", x.mean(1), 2000.0f);
        Check.due("join: best until the decision", x.look(1, 0), 0);
        Check.due("join: nothing comes", x.tick(), 0);
        Check.due("decided: listening", x.port(1, 0), 0);
        Check.due("decided: best", x.look(1, 0), 1);
        Check.due("decided: no mean", x.look(1, 4), 0);
        Check.due("decided: no request", x.look(1, 5), 0);
        Check.dueFloat("decided: sum", x.sum(1), 0.0f);
        Check.due("decided: adjust stays", x.look(1, 3), -312);
        Check.due("decided: reading", x.reading(1), 15688);
        x.tick();
        Check.due("the reading grows with it", x.reading(1), 16376);
        Check.due("listening ports send nothing", x.count(0), 0);
        Check.due("nor lose", x.count(1), onLinks);
    }

    private static void joinUpBegins() {
        ClockNet x = steered();
        x.join(0, false);
        x.tick();
        x.join(0, true);
        Check.due("up: listening till a decision", x.port(1, 0), 0);
        Nets.ticks(x, 1);
        Check.due("up: master", x.port(1, 0), 1);
        Nets.ticks(x, 6);
        Check.due("up: slave again", x.port(1, 0), 2);
    }

    private static void joinLeavesOtherLinks() {
        ClockNet x = new ClockNet();
        x.clock(1, 10, 6, 0);
        x.clock(1, 20, 6, 0);
        x.link(0, 1, 1, 1);
        x.link(0, 1, 1, 1);
        Nets.ticks(x, 12);
        Check.due("slave on the lowest link", x.look(1, 2), 0);
        Check.due("has a mean", x.look(1, 4), 1);
        Check.due("on links", x.count(0), 6);
        x.join(0, false);
        Check.due("those on the other link stay", x.count(0), 3);
        Check.due("and go over it", x.message(0, 5), 1);
        Check.due("passive stays till the decision", x.port(1, 1), 3);
        x.tick();
        Check.due("slave on the other link", x.look(1, 2), 1);
        Check.due("no mean after another slave port", x.look(1, 4), 0);
        Check.due("listening", x.port(1, 0), 0);
    }

    private static void joinRefuses() {
        ClockNet x = steered();
        Check.badState("up already", () -> x.join(0, true));
        Check.due("refused: slave stays", x.port(1, 0), 2);
        Check.noSuch("no link", () -> x.join(1, true));
        Check.noSuch("link -1", () -> x.join(-1, false));
        x.join(0, false);
        Check.badState("down already", () -> x.join(0, false));
    }

    private static void loseTakesOneOut() {
        ClockNet x = new ClockNet();
        x.clock(0, 10, 6, 0);
        x.clock(0, 20, 6, 0);
        x.link(0, 1, 1, 1);
        Check.noSuch("none to lose", () -> x.lose(0));
        Nets.ticks(x, 2);
        Check.due("on links", x.count(0), 4);
        x.lose(1);
        Check.due("on links after lose", x.count(0), 3);
        Check.due("lost", x.count(1), 1);
        Check.due("first is the sync of 0", x.message(0, 0), 1);
        Check.due("second is the sync of 1", x.message(1, 0), 1);
        Check.due("second is the sync of 1", x.message(1, 1), 1);
        Check.due("third is the follow of 1", x.message(2, 0), 2);
        Check.noSuch("lose(3)", () -> x.lose(3));
        Check.noSuch("lose(-1)", () -> x.lose(-1));
        Check.due("a refused lose loses nothing", x.count(1), 1);
        Check.due("the others come", x.tick(), 3);
    }

    private static void setIsBroughtIn() {
        ClockNet x = new ClockNet();
        x.clock(0, 10, 6, 7);
        x.clock(2, 10, 6, 0);
        x.set(0, 1000000000000L);
        Check.due("set to the most", x.reading(0), 1000000000000L);
        x.tick();
        Check.due("a reading may grow beyond it", x.reading(0), 1000000001007L);
        x.set(0, 1000000000001L);
        Check.due("set above", x.reading(0), 1000000000000L);
        x.set(0, Long.MAX_VALUE);
        Check.due("set far above", x.reading(0), 1000000000000L);
        x.set(0, -1000000000001L);
        Check.due("set below", x.reading(0), -1000000000000L);
        x.set(0, Long.MIN_VALUE);
        Check.due("set far below", x.reading(0), -1000000000000L);
        x.set(0, -5);
        Check.due("set", x.reading(0), -5);
        x.set(1, 12);
        Check.due("set a transparent clock", x.reading(1), 12);
        x.power(0, false);
        x.set(0, 77);
        Check.due("set a clock that is down", x.reading(0), 77);
        Check.noSuch("set(2)", () -> x.set(2, 0));
        Check.noSuch("set(-1)", () -> x.set(-1, 0));
    }
}
