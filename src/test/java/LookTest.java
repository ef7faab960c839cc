/** Promises 10 to 19: port, heard, look, reading, mean, sum, apart, message, stamp, count. */
public final class LookTest {
    private LookTest() {
    }

    public static void main(String[] args) {
        portTellsStates();
        portRefuses();
        heardTellsAGrade();
        heardRefusesInOrder();
        lookTellsOfAClock();
        lookAtATransparentClock();
        lookRefuses();
        readingGrows();
        meanAndSum();
        apartIsInTicks();
        messageTellsItsParts();
        messageRefuses();
        stampTellsLongs();
        countTells();
        lostAreCounted();
        Check.end("LookTest");
    }

    /** Boundary clocks 0 and 1 with two links, and the transparent clock 2 at clock 0. */
    private static ClockNet net(int ticks) {
        ClockNet x = new ClockNet();
        x.clock(1, 10, 6, 0);
        x.clock(1, 20, 7, 0);
        x.clock(2, 3, 4, 5);
        x.link(0, 1, 3, 1);
        x.link(1, 0, 1, 3);
        x.link(0, 2, 1, 1);
        Nets.ticks(x, ticks);
        return x;
    }

    private static void portTellsStates() {
        ClockNet x = net(0);
        Check.due("listening at first", x.port(0, 0), 0);
        x.tick();
        Check.due("master", x.port(1, 0), 1);
        Nets.ticks(x, 6);
        Check.due("master", x.port(0, 0), 1);
        Check.due("slave", x.port(1, 0), 2);
        Check.due("passive", x.port(1, 1), 3);
        Check.due("toward a transparent clock", x.port(0, 2), 1);
        x.join(0, false);
        x.tick();
        Check.due("listening on a link that is down", x.port(0, 0), 0);
        Check.due("the other is the slave", x.port(1, 1), 2);
    }

    private static void portRefuses() {
        ClockNet x = net(1);
        Check.noSuch("no clock", () -> x.port(3, 0));
        Check.noSuch("clock -1", () -> x.port(-1, 0));
        Check.noSuch("no link", () -> x.port(0, 3));
        Check.noSuch("link -1", () -> x.port(0, -1));
        Check.noSuch("a transparent clock", () -> x.port(2, 2));
        Check.noSuch("not its link", () -> x.port(1, 2));
    }

    private static void heardTellsAGrade() {
        ClockNet x = net(6);
        Check.due("none yet", x.heard(1, 0, 0), -1);
        Check.due("none yet", x.heard(1, 0, 5), -1);
        Check.due("heard by the other at 5: priority", x.heard(0, 0, 0), 20);
        x.tick();
        Check.due("priority", x.heard(1, 0, 0), 10);
        Check.due("class", x.heard(1, 0, 1), 6);
        Check.due("best", x.heard(1, 0, 2), 0);
        Check.due("steps", x.heard(1, 0, 3), 0);
        Check.due("who says so", x.heard(1, 0, 4), 0);
        Check.due("when", x.heard(1, 0, 5), 7);
        Check.due("class heard by the other", x.heard(0, 0, 1), 7);
        Check.due("best heard by the other", x.heard(0, 0, 2), 1);
        Check.due("who says so to the other", x.heard(0, 0, 4), 1);
        Check.due("when heard by the other", x.heard(0, 0, 5), 5);
    }

    private static void heardRefusesInOrder() {
        ClockNet x = net(1);
        Check.badArgument("what 6, none heard", () -> x.heard(0, 0, 6));
        Check.badArgument("what -1", () -> x.heard(0, 0, -1));
        Check.noSuch("no clock, what 6", () -> x.heard(3, 0, 6));
        Check.noSuch("no link, what 6", () -> x.heard(0, 3, 6));
        Check.noSuch("not its link, what 6", () -> x.heard(1, 2, 6));
        Check.noSuch("transparent, what 6", () -> x.heard(2, 2, 6));
        Check.noSuch("transparent, what 0", () -> x.heard(2, 2, 0));
    }

    private static void lookTellsOfAClock() {
        ClockNet x = net(15);
        Check.due("best", x.look(1, 0), 0);
        Check.due("steps", x.look(1, 1), 1);
        Check.due("slave", x.look(1, 2), 0);
        Check.due("adjust", x.look(1, 3), -312);
        Check.due("has a mean", x.look(1, 4), 1);
        Check.due("request open", x.look(1, 5), 1);
        Check.due("best of the best", x.look(0, 0), 0);
        Check.due("steps of the best", x.look(0, 1), 0);
        Check.due("slave of the best", x.look(0, 2), -1);
        Check.due("adjust of the best", x.look(0, 3), 0);
        Check.due("mean of the best", x.look(0, 4), 0);
        Check.due("request of the best", x.look(0, 5), 0);
    }

    private static void lookAtATransparentClock() {
        ClockNet x = net(15);
        int[] due = {2, 0, -1, 0, 0, 0};
        for (int what = 0; what < 6; what++) {
            Check.due("transparent, what " + what, x.look(2, what), due[what]);
        }
        x.power(2, false);
        Check.due("transparent and down", x.look(2, 0), 2);
    }

    private static void lookRefuses() {
        ClockNet x = net(1);
        Check.badArgument("what 6", () -> x.look(0, 6));
        Check.badArgument("what -1", () -> x.look(0, -1));
        Check.badArgument("transparent, what 6", () -> x.look(2, 6));
        Check.noSuch("no clock, what 6", () -> x.look(3, 6));
        Check.noSuch("clock -1", () -> x.look(-1, 0));
    }

    private static void readingGrows() {
        ClockNet x = net(7);
        Check.due("reading without drift", x.reading(0), 7000);
        Check.due("reading with drift 5", x.reading(2), 7035);
        Check.noSuch("no clock", () -> x.reading(3));
        Check.noSuch("clock -1", () -> x.reading(-1));
    }

    private static void meanAndSum() {
        ClockNet x = net(13);
        Check.dueFloat("no mean", x.mean(1), 0.0f);
        Check.dueFloat("no sum", x.sum(1), 0.0f);
        x.tick();
        Check.dueFloat("mean", x.mean(1), 2000.0f);
        Check.dueFloat("sum is 0 till it is steered", x.sum(1), 0.0f);
        x.tick();
        Check.dueFloat("sum", x.sum(1), 62.5f);
        x.power(1, false);
        Check.dueFloat("mean of a clock that is down", x.mean(1), 0.0f);
        Check.dueFloat("sum of a clock that is down", x.sum(1), 0.0f);
        Check.dueFloat("mean of a transparent clock", x.mean(2), 0.0f);
        Check.dueFloat("sum of a transparent clock", x.sum(2), 0.0f);
        Check.noSuch("mean of no clock", () -> x.mean(3));
        Check.noSuch("mean of clock -1", () -> x.mean(-1));
        Check.noSuch("sum of no clock", () -> x.sum(3));
        Check.noSuch("sum of clock -1", () -> x.sum(-1));
    }

    private static void apartIsInTicks() {
        ClockNet x = net(0);
        x.set(0, 1500);
        x.set(1, 250);
        Check.dueFloat("apart", x.apart(0, 1), 1.25f);
        Check.dueFloat("apart the other way", x.apart(1, 0), -1.25f);
        Check.dueFloat("apart from itself", x.apart(1, 1), 0.0f);
        Check.dueFloat("apart from a transparent clock", x.apart(0, 2), 1.5f);
        x.set(0, 1000000000000L);
        x.set(1, 999999999999L);
        Check.dueFloat("the longs are subtracted first", x.apart(0, 1), 0.001f);
        x.set(1, -16777217);
        x.set(0, 0);
        Check.dueFloat("then cast, then divided", x.apart(0, 1), 16777.216f);
        Check.noSuch("no clock", () -> x.apart(3, 0));
        Check.noSuch("no other", () -> x.apart(0, 3));
        Check.noSuch("clock -1", () -> x.apart(-1, 0));
        Check.noSuch("other -1", () -> x.apart(0, -1));
    }

    private static void messageTellsItsParts() {
        ClockNet x = net(10);
        int r = Nets.find(x, 3, 1);
        int[] due = {3, 1, 0, 10, 0, 0, 0, 11};
        for (int what = 0; what < 8; what++) {
            Check.due("request, what " + what, x.message(r, what), due[what]);
        }
        int s = Nets.find(x, 1, 0);
        int[] sync = {1, 0, 9, 8, 0, 0, 1, 11};
        for (int what = 0; what < 8; what++) {
            Check.due("sync, what " + what, x.message(s, what), sync[what]);
        }
        int last = x.count(0) - 1;
        Check.due("the last one", x.message(last, 0) >= 0 ? 1 : 0, 1);
        Check.due("none behind it", x.message(last + 1, 0), -1);
        Check.due("none before the first", x.message(-1, 7), -1);
    }

    private static void messageRefuses() {
        ClockNet x = net(2);
        Check.badArgument("what 8", () -> x.message(0, 8));
        Check.badArgument("what -1", () -> x.message(0, -1));
        Check.badArgument("what 8, no message", () -> x.message(60, 8));
        Check.badArgument("what -1, message -1", () -> x.message(-1, -1));
    }

    private static void stampTellsLongs() {
        ClockNet x = net(0);
        x.set(0, 1000000000000L);
        Nets.ticks(x, 2);
        Check.due("type", x.message(1, 0), 2);
        Check.due("time", x.stamp(1, false), 1000000002000L);
        Check.due("correction", x.stamp(1, true), 0);
        Check.due("no message", x.stamp(60, false), 0);
        Check.due("no message", x.stamp(x.count(0), true), 0);
        Check.due("message -1", x.stamp(-1, false), 0);
        ClockNet y = new ClockNet();
        y.clock(0, 10, 6, 0);
        y.clock(2, 0, 0, 0);
        y.clock(0, 20, 6, 0);
        y.link(0, 1, 1, 1);
        y.link(1, 2, 1, 1);
        Nets.ticks(y, 3);
        Check.due("correction of what is passed on", y.stamp(1, true), 1000);
        Check.due("time of what is passed on", y.stamp(1, false), 2000);
    }

    private static void countTells() {
        ClockNet x = net(2);
        Check.due("on links", x.count(0), 10);
        Check.due("lost", x.count(1), 0);
        Check.due("now", x.count(2), 2);
        Check.badArgument("what 3", () -> x.count(3));
        Check.badArgument("what -1", () -> x.count(-1));
    }

    private static void lostAreCounted() {
        ClockNet x = net(2);
        x.lose(0);
        Check.due("by lose()", x.count(1), 1);
        x.join(1, false);
        Check.due("by a link", x.count(1), 5);
        x.power(2, false);
        x.tick();
        Check.due("by a clock that is down", x.count(1), 7);
    }
}
