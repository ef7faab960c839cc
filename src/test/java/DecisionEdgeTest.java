/** The sentences of 'Terms' on grades, decisions, what is sent, and going down and coming up: each has its test. */
public final class DecisionEdgeTest {
    private static final int LISTENING = 0;
    private static final int MASTER = 1;
    private static final int SLAVE = 2;
    private static final int PASSIVE = 3;

    private DecisionEdgeTest() {
    }

    public static void main(String[] args) {
        Check.sentence("One grade is BETTER than another if at the first of the five in which they differ it is less.",
                DecisionEdgeTest::firstOfTheFive);
        Check.sentence("A clock's OWN grade is its priority, its class, its number, 0, its number.",
                DecisionEdgeTest::ownGrade);
        Check.sentence("A TICK: 1. NOW grows by 1, and all readings grow.", DecisionEdgeTest::readingsGrowFirst);
        Check.sentence("3. Each clock that is up and not transparent, by number: its ports, by link",
                DecisionEdgeTest::whoDecides);
        Check.sentence("a heard grade that is 12 ticks old or older is gone", DecisionEdgeTest::twelveTicksOld);
        Check.sentence("(of equal ones that of the lowest link)", DecisionEdgeTest::lowestLink);
        Check.sentence("with STEPS one more and the clock itself as the one that says so",
                DecisionEdgeTest::oneStepMore);
        Check.sentence("If there is none, or the own grade is better than B: all ports are masters, and its BEST clock"
                + " is itself, 0 steps away.", DecisionEdgeTest::ownIsBetter);
        Check.sentence("the port where it was heard is the slave; another port is passive if the grade heard there is"
                + " better than B, else it is a master", DecisionEdgeTest::passiveOrMaster);
        Check.sentence("When it has no slave, ", DecisionEdgeTest::noSlaveForgets);
        Check.sentence("or the slave is another port, ", DecisionEdgeTest::anotherPortForgets);
        Check.sentence("or heard another that says so, than in the decision before", DecisionEdgeTest::anotherSaysSo);
        Check.sentence("there is no mean, no LAG, no request and no sync open, the sum is 0",
                DecisionEdgeTest::whatADecisionForgets);
        Check.sentence("Ports whose link is down are left aside: they are LISTENING.", DecisionEdgeTest::downLinks);
        Check.sentence("a master sends, if NOW % 4 is 0, an ANNOUNCE to all", DecisionEdgeTest::announceEveryFour);
        Check.sentence("with the grade: B if it has a slave, else the own one", DecisionEdgeTest::announceBOrOwn);
        Check.sentence("If NOW % 2 is 0: a SYNC to all and a FOLLOW to all with its reading as TIME; both have NOW as"
                + " number.", DecisionEdgeTest::syncEveryTwo);
        Check.sentence("A slave sends, if NOW % 4 is 2, ", DecisionEdgeTest::requestEveryFour);
        Check.sentence("a REQUEST to the clock that said the heard grade, with NOW as number",
                DecisionEdgeTest::requestToWhoSaidIt);
        Check.sentence("4. Each clock that is up and not transparent, by number, its ports by link",
                DecisionEdgeTest::whoSends);
        Check.sentence("A clock that GOES DOWN: its ports are LISTENING and have heard nothing; it has no slave, no"
                + " mean, no LAG, nothing open, sum 0, ADJUST 0; its best clock is itself.",
                DecisionEdgeTest::goesDown);
        Check.sentence("The same when it comes up.", DecisionEdgeTest::comesUp);
        Check.end("DecisionEdgeTest");
    }

    private static int bestOf(int priority0, int class0, int priority1, int class1) {
        ClockNet x = new ClockNet();
        x.clock(0, priority0, class0, 0);
        x.clock(0, priority1, class1, 0);
        x.link(0, 1, 1, 1);
        Nets.ticks(x, 5);
        Check.due("both agree", x.look(0, 0), x.look(1, 0));
        return x.look(0, 0);
    }

    private static void firstOfTheFive() {
        Check.due("priority, though class and number are more", bestOf(8, 0, 7, 255), 1);
        Check.due("priority", bestOf(7, 255, 8, 0), 0);
        Check.due("then class, though the number is more", bestOf(7, 4, 7, 3), 1);
        Check.due("then class", bestOf(7, 3, 7, 4), 0);
        Check.due("then the number", bestOf(7, 3, 7, 3), 0);
        // Clock 4 hears of clock 0 by 2, which follows 1, and by 3, which follows 0: fewer steps, though 3 says so.
        ClockNet steps = boundaries(5);
        steps.link(0, 1, 1, 1);
        steps.link(1, 2, 1, 1);
        steps.link(2, 4, 1, 1);
        steps.link(0, 3, 1, 1);
        steps.link(3, 4, 1, 1);
        Nets.ticks(steps, 30);
        Check.due("then steps: heard of 2", steps.heard(4, 2, 3), 2);
        Check.due("then steps: slave", steps.look(4, 2), 4);
        Check.due("then steps: heard", steps.heard(4, 4, 3), 1);
        // Clock 3 hears of clock 0 by 2 on link 1 and by 1 on link 3, both one step away.
        ClockNet says = boundaries(4);
        says.link(0, 2, 1, 1);
        says.link(2, 3, 1, 1);
        says.link(0, 1, 1, 1);
        says.link(1, 3, 1, 1);
        Nets.ticks(says, 9);
        Check.due("then who says so: heard of 2", says.heard(3, 1, 4), 2);
        Check.due("then who says so: heard of 1", says.heard(3, 3, 4), 1);
        Check.due("then who says so: slave", says.look(3, 2), 3);
    }

    private static ClockNet boundaries(int n) {
        ClockNet x = new ClockNet();
        for (int c = 0; c < n; c++) {
            x.clock(1, 10 * (c + 1), 6, 0);
        }
        return x;
    }

    private static void ownGrade() {
        ClockNet x = new ClockNet();
        x.clock(0, 0, 0, 0);
        x.clock(0, 31, 32, 33);
        x.clock(0, 41, 42, 43);
        x.link(1, 2, 1, 1);
        Nets.ticks(x, 5);
        int[] of1 = {31, 32, 1, 0, 1, 5};
        int[] of2 = {41, 42, 2, 0, 2, 5};
        for (int what = 0; what < 6; what++) {
            Check.due("of clock 1, what " + what, x.heard(2, 0, what), of1[what]);
            Check.due("of clock 2, what " + what, x.heard(1, 0, what), of2[what]);
        }
    }

    private static void readingsGrowFirst() {
        ClockNet x = Nets.pair(6);
        x.tick();
        // The answer of tick 7 has the reading that has grown to 7000 already.
        Check.due("7: time of the answer", x.stamp(0, false), 7000);
        ClockNet y = new ClockNet();
        y.clock(0, 0, 0, 0);
        y.clock(1, 0, 0, 1);
        y.clock(2, 0, 0, 2);
        y.tick();
        for (int c = 0; c < 3; c++) {
            Check.due("reading of kind " + c, y.reading(c), 1000 + c);
        }
        Check.due("NOW", y.count(2), 1);
    }

    private static void whoDecides() {
        ClockNet x = Nets.star(0);
        x.power(2, false);
        x.tick();
        Check.due("one that is up", x.port(0, 0), MASTER);
        Check.due("one that is down", x.port(2, 1), LISTENING);
        Check.due("another that is up", x.port(3, 2), MASTER);
        Check.due("a transparent one has no best but itself", x.look(1, 0), 1);
        x.power(2, true);
        Check.due("up, before its decision", x.port(2, 1), LISTENING);
        x.tick();
        Check.due("up, behind it", x.port(2, 1), MASTER);
    }

    private static void twelveTicksOld() {
        ClockNet x = Nets.pair(5);
        x.power(0, false);
        Nets.ticks(x, 11);
        Check.due("16: 11 ticks old", x.heard(1, 0, 5), 5);
        Check.due("16: still a slave", x.port(1, 0), SLAVE);
        x.tick();
        Check.due("17: 12 ticks old", x.heard(1, 0, 5), -1);
        Check.due("17: gone before the decision", x.port(1, 0), MASTER);
        ClockNet renewed = Nets.pair(8);
        Nets.loseOne(renewed, Nets.ANNOUNCE, 0);
        Nets.ticks(renewed, 4);
        Nets.loseOne(renewed, Nets.ANNOUNCE, 0);
        Nets.ticks(renewed, 4);
        Check.due("16: 11 ticks old", renewed.heard(1, 0, 5), 5);
        renewed.tick();
        Check.due("17: heard again in time", renewed.heard(1, 0, 5), 17);
        Check.due("17: still a slave", renewed.port(1, 0), SLAVE);
        Check.due("17: with its mean", renewed.look(1, 4), 1);
        oldGradeKeepsAWorseOneOut();
        ClockNet master = Nets.pair(16);
        Check.due("16: 11 ticks old at a master", master.heard(0, 0, 5), 5);
        master.tick();
        Check.due("17: 12 ticks old at a master", master.heard(0, 0, 5), -1);
    }

    /** Clock 3 hears nobody and announces; what it sent at 16 comes to clock 2 at 19, as clock 0's grade is 12 old. */
    private static void oldGradeKeepsAWorseOneOut() {
        ClockNet x = Nets.star(5);
        Nets.loseOn(x, Nets.ANNOUNCE, 0, 2);
        Nets.loseOn(x, Nets.ANNOUNCE, 0, 2);
        x.power(0, false);
        Nets.ticks(x, 13);
        Check.due("18: heard of 0", x.heard(2, 1, 5), 7);
        Check.due("18: a worse one is to come", x.message(0, 1), 3);
        x.tick();
        Check.due("19: it came before the old one was gone", x.heard(2, 1, 5), -1);
        Check.due("19: a master", x.port(2, 1), MASTER);
        Nets.ticks(x, 4);
        Check.due("23: the next one is heard", x.heard(2, 1, 0), 30);
    }

    private static void lowestLink() {
        ClockNet x = Nets.cable(3, 1, 1);
        x.join(0, false);
        Nets.ticks(x, 5);
        Check.due("link 0 is down: the slave is on", x.look(1, 2), 1);
        x.join(0, true);
        Nets.ticks(x, 4);
        Check.due("link 0 heard the same: the slave is on", x.look(1, 2), 0);
        Check.due("the others are passive", x.port(1, 1), PASSIVE);
        Check.due("the others are passive", x.port(1, 2), PASSIVE);
    }

    private static void oneStepMore() {
        ClockNet x = Nets.row(3, 9);
        int[] due = {10, 6, 0, 1, 1, 9};
        for (int what = 0; what < 6; what++) {
            Check.due("heard at clock 2, what " + what, x.heard(2, 1, what), due[what]);
        }
        Check.due("steps of 0", x.look(0, 1), 0);
        Check.due("steps of 1", x.look(1, 1), 1);
        Check.due("steps of 2", x.look(2, 1), 2);
    }

    private static void ownIsBetter() {
        ClockNet none = Nets.row(3, 1);
        Check.due("none heard: a master", none.port(1, 0), MASTER);
        Check.due("none heard: a master", none.port(1, 1), MASTER);
        Check.due("none heard: best", none.look(1, 0), 1);
        Check.due("none heard: steps", none.look(1, 1), 0);
        ClockNet middle = Nets.row(3, 12);
        Check.due("follows", middle.look(1, 0), 0);
        middle.grade(1, 10, 6, 0);
        middle.tick();
        Check.due("the same numbers, but 0 is less than 1", middle.look(1, 0), 0);
        middle.grade(1, 10, 5, 0);
        middle.tick();
        Check.due("a class less by one: best", middle.look(1, 0), 1);
        Check.due("steps", middle.look(1, 1), 0);
        Check.due("slave", middle.look(1, 2), -1);
        Check.due("a master", middle.port(1, 0), MASTER);
        Check.due("a master", middle.port(1, 1), MASTER);
        ClockNet equal = Nets.row(3, 12);
        equal.grade(0, 20, 6, 0);
        Nets.ticks(equal, 5);
        Check.due("the same numbers, heard of a lower one", equal.look(1, 0), 0);
        equal.grade(0, 20, 7, 0);
        Nets.ticks(equal, 4);
        Check.due("a class more by one", equal.look(1, 0), 1);
    }

    private static void passiveOrMaster() {
        ClockNet x = boundaries(3);
        x.link(0, 1, 1, 1);
        x.link(0, 2, 1, 1);
        x.link(1, 2, 1, 1);
        Nets.ticks(x, 5);
        Check.due("5: heard of 1 at 2", x.heard(2, 2, 0), 20);
        Check.due("5: worse than B by priority", x.port(2, 2), MASTER);
        Nets.ticks(x, 4);
        Check.due("9: slaves", x.port(1, 0), SLAVE);
        Check.due("9: slaves", x.port(2, 1), SLAVE);
        Check.due("9: heard of 1 at 2: the same best and steps as B", x.heard(2, 2, 3), 1);
        Check.due("9: better than B by who says so", x.port(2, 2), PASSIVE);
        Check.due("9: heard of 2 at 1: the same best and steps as B", x.heard(1, 2, 3), 1);
        Check.due("9: worse than B by who says so", x.port(1, 2), MASTER);
        ClockNet y = Nets.row(3, 12);
        Check.due("nothing heard of late", y.port(1, 1), MASTER);
        Nets.ticks(y, 8);
        Check.due("20: nothing heard", y.heard(1, 1, 5), -1);
        Check.due("20: a master", y.port(1, 1), MASTER);
        ClockNet z = Nets.ticks(Nets.cable(2, 1, 1), 5);
        Check.due("the same as at the slave, so a step less than B", z.port(1, 1), PASSIVE);
    }

    private static void forgot(String when, ClockNet x, int c) {
        Check.due(when + ": no mean", x.look(c, 4), 0);
        Check.dueFloat(when + ": mean() is 0", x.mean(c), 0.0f);
        Check.dueFloat(when + ": sum", x.sum(c), 0.0f);
    }

    private static void noSlaveForgets() {
        ClockNet x = Nets.uneven(15);
        Check.due("15: has a mean", x.look(1, 4), 1);
        Check.due("15: request open", x.look(1, 5), 1);
        x.grade(1, 10, 5, 0);
        Check.due("15: till the decision", x.look(1, 4), 1);
        x.tick();
        Check.due("16: no slave", x.look(1, 2), -1);
        Check.due("16: no request open", x.look(1, 5), 0);
        forgot("16", x, 1);
        Check.due("16: ADJUST is not named and stays", x.look(1, 3), -312);
    }

    private static void anotherPortForgets() {
        ClockNet x = Nets.cable(2, 3, 1);
        Nets.ticks(x, 15);
        Check.due("15: slave", x.look(1, 2), 0);
        Check.due("15: has a mean", x.look(1, 4), 1);
        Check.due("15: request open", x.look(1, 5), 1);
        x.join(0, false);
        x.tick();
        Check.due("16: the slave is another port", x.look(1, 2), 1);
        Check.due("16: the same says so", x.heard(1, 1, 4), 0);
        Check.due("16: no request open", x.look(1, 5), 0);
        forgot("16", x, 1);
        Check.due("16: ADJUST stays", x.look(1, 3), -312);
        ClockNet other = Nets.cable(2, 3, 1);
        Nets.ticks(other, 15);
        other.join(1, false);
        other.tick();
        Check.due("16: the slave is the same", other.look(1, 2), 0);
        Check.due("16: it has its mean", other.look(1, 4), 1);
    }

    private static void anotherSaysSo() {
        ClockNet x = Nets.star(18);
        x.grade(3, 1, 1, 0);
        Nets.ticks(x, 4);
        Check.due("22: has a mean", x.look(2, 4), 1);
        Check.due("22: request open", x.look(2, 5), 1);
        x.tick();
        Check.due("23: the same port", x.look(2, 2), 1);
        Check.due("23: another says so", x.heard(2, 1, 4), 3);
        Check.due("23: no request open", x.look(2, 5), 0);
        forgot("23", x, 2);
        // Clock 1 becomes its own best: what clock 2 hears is another grade, but the same says so.
        ClockNet same = Nets.row(3, 14);
        Check.due("14: has a mean", same.look(2, 4), 1);
        same.join(0, false);
        Nets.ticks(same, 3);
        Check.due("17: another best", same.look(2, 0), 1);
        Check.due("17: fewer steps", same.look(2, 1), 1);
        Check.due("17: the same says so", same.heard(2, 1, 4), 1);
        Check.due("17: it has its mean", same.look(2, 4), 1);
    }

    private static void whatADecisionForgets() {
        // No LAG: after the change at 16 all follows are lost, and the answer to request 18 makes no mean.
        ClockNet lag = Nets.cable(2, 1, 1);
        Nets.ticks(lag, 15);
        Check.due("15: has a mean", lag.look(1, 4), 1);
        lag.join(0, false);
        for (int t = 16; t <= 20; t++) {
            Nets.loseAllBut(lag, Nets.FOLLOW, -1);
            lag.tick();
        }
        Check.due("20: request 18 was answered", lag.look(1, 5), 0);
        Check.due("20: there was no lag", lag.look(1, 4), 0);
        // No sync open: sync 14 came over link 0, the follow 14 over the slow link 1 when that is the slave.
        ClockNet sync = new ClockNet();
        sync.clock(1, 10, 6, 0);
        sync.clock(1, 20, 6, 0);
        sync.link(0, 1, 1, 1);
        sync.link(0, 1, 5, 1);
        Nets.ticks(sync, 14);
        Nets.loseOn(sync, Nets.FOLLOW, 14, 0);
        sync.tick();
        sync.join(0, false);
        for (int t = 16; t <= 24; t++) {
            Nets.loseAllBut(sync, Nets.FOLLOW, 14);
            Nets.loseAllBut(sync, Nets.SYNC, -1);
            sync.tick();
        }
        Check.due("24: request 18 was answered", sync.look(1, 5), 0);
        Check.due("24: follow 14 found no open sync", sync.look(1, 4), 0);
        // No request open: 14 would keep request 18 from being sent, since its answer is lost.
        ClockNet request = Nets.uneven(15);
        Nets.loseOne(request, Nets.ANSWER, 0);
        request.grade(1, 10, 5, 0);
        request.tick();
        request.grade(1, 20, 6, 0);
        Nets.ticks(request, 2);
        Check.due("18: the same port is the slave again", request.look(1, 2), 0);
        Check.due("18: a request is sent", request.message(Nets.find(request, Nets.REQUEST, 1), 3), 18);
    }

    private static void downLinks() {
        ClockNet x = Nets.row(3, 12);
        Check.due("before", x.port(1, 0), SLAVE);
        x.join(1, false);
        Check.due("at once", x.port(1, 1), LISTENING);
        x.tick();
        Check.due("after a decision with a slave", x.port(1, 1), LISTENING);
        Check.due("the slave stays", x.port(1, 0), SLAVE);
        x.join(0, false);
        Nets.ticks(x, 3);
        Check.due("after a decision with none", x.port(1, 0), LISTENING);
        Check.due("after a decision with none", x.port(1, 1), LISTENING);
        Check.due("its best clock is itself", x.look(1, 0), 1);
        x.join(1, true);
        Check.due("up, before a decision", x.port(1, 1), LISTENING);
        x.tick();
        Check.due("up, after it", x.port(1, 1), MASTER);
        Check.due("the other one", x.port(1, 0), LISTENING);
    }

    /** How many messages of a type from clock 0 with this number are on links. */
    private static int from0(ClockNet x, int type, int number) {
        int found = 0;
        for (int i = 0; i < x.count(0); i++) {
            if (x.message(i, 0) == type && x.message(i, 1) == 0 && x.message(i, 3) == number) {
                found++;
            }
        }
        return found;
    }

    private static void announceEveryFour() {
        ClockNet x = Nets.pair(0);
        for (int t = 1; t <= 13; t++) {
            x.tick();
            Check.due(t + ": of the master", Nets.find(x, Nets.ANNOUNCE, 0) >= 0 ? 1 : 0, t % 4 == 0 ? 1 : 0);
            Check.due(t + ": of one that is a slave from 5 on", Nets.find(x, Nets.ANNOUNCE, 1) >= 0 ? 1 : 0,
                    t == 4 ? 1 : 0);
        }
    }

    private static void announceBOrOwn() {
        ClockNet x = Nets.row(3, 5);
        Check.due("5: it had no slave at 4: priority", x.heard(2, 1, 0), 20);
        Check.due("5: best", x.heard(2, 1, 2), 1);
        Check.due("5: steps", x.heard(2, 1, 3), 0);
        Nets.ticks(x, 4);
        Check.due("9: it had one at 8: priority", x.heard(2, 1, 0), 10);
        Check.due("9: best", x.heard(2, 1, 2), 0);
        Check.due("9: steps", x.heard(2, 1, 3), 1);
        x.join(0, false);
        Nets.ticks(x, 4);
        Check.due("13: it had none at 12: priority", x.heard(2, 1, 0), 20);
        Check.due("13: best", x.heard(2, 1, 2), 1);
    }

    private static void syncEveryTwo() {
        ClockNet x = Nets.pair(0);
        x.set(0, 500);
        for (int t = 1; t <= 9; t++) {
            x.tick();
            Check.due(t + ": a sync", from0(x, Nets.SYNC, t), t % 2 == 0 ? 1 : 0);
            Check.due(t + ": a follow", from0(x, Nets.FOLLOW, t), t % 2 == 0 ? 1 : 0);
            if (t % 2 == 0) {
                int f = Nets.find(x, Nets.FOLLOW, 0);
                Check.due(t + ": its time", x.stamp(f, false), 500 + 1000L * t);
                Check.due(t + ": behind its sync", Nets.find(x, Nets.SYNC, 0), f - 1);
            }
        }
    }

    private static void requestEveryFour() {
        ClockNet x = Nets.pair(0);
        for (int t = 1; t <= 15; t++) {
            x.tick();
            boolean due = t == 6 || t == 10 || t == 14;
            Check.due(t + ": a request", Nets.find(x, Nets.REQUEST, 1) >= 0 ? 1 : 0, due ? 1 : 0);
            Check.due(t + ": of a master", Nets.find(x, Nets.REQUEST, 0), -1);
        }
    }

    private static void requestToWhoSaidIt() {
        ClockNet x = Nets.star(18);
        Check.due("18: it was clock 0", x.message(Nets.find(x, Nets.REQUEST, 2), 2), 0);
        Check.due("18: number", x.message(Nets.find(x, Nets.REQUEST, 2), 3), 18);
        ClockNet y = Nets.row(3, 10);
        Check.due("10: of clock 1 to", y.message(Nets.find(y, Nets.REQUEST, 1), 2), 0);
        Check.due("10: of clock 2 to who says so, not to the best", y.message(Nets.find(y, Nets.REQUEST, 2), 2), 1);
        ClockNet z = Nets.star(18);
        z.grade(3, 1, 1, 0);
        Nets.ticks(z, 8);
        Check.due("26: it is clock 3 now", z.message(Nets.find(z, Nets.REQUEST, 2), 2), 3);
    }

    private static void whoSends() {
        ClockNet x = Nets.star(0);
        x.power(2, false);
        Nets.ticks(x, 2);
        Check.due("2: two clocks send", x.count(0), 4);
        Check.due("2: none of one that is down", Nets.find(x, Nets.SYNC, 2), -1);
        Check.due("2: none of a transparent one", Nets.find(x, Nets.SYNC, 1), -1);
        ClockNet y = boundaries(3);
        y.link(2, 1, 1, 1);
        y.link(1, 0, 1, 1);
        y.link(0, 2, 1, 1);
        Nets.ticks(y, 2);
        int[] clocks = {0, 0, 0, 0, 1, 1, 1, 1, 2, 2, 2, 2};
        int[] links = {1, 1, 2, 2, 0, 0, 1, 1, 0, 0, 2, 2};
        for (int i = 0; i < clocks.length; i++) {
            Check.due("2: sender " + i, y.message(i, 1), clocks[i]);
            Check.due("2: link " + i, y.message(i, 5), links[i]);
        }
    }

    private static void isFresh(String when, ClockNet x, int c, int l) {
        Check.due(when + ": state", x.port(c, l), LISTENING);
        for (int what = 0; what < 6; what++) {
            Check.due(when + ": heard, what " + what, x.heard(c, l, what), -1);
        }
        int[] due = {c, 0, -1, 0, 0, 0};
        for (int what = 0; what < 6; what++) {
            Check.due(when + ": look, what " + what, x.look(c, what), due[what]);
        }
        forgot(when, x, c);
    }

    private static void goesDown() {
        ClockNet x = Nets.uneven(15);
        Check.due("before: ADJUST", x.look(1, 3), -312);
        x.power(1, false);
        isFresh("down", x, 1, 0);
        Check.due("the reading stays", x.reading(1), 15000);
        Check.due("the other end stays", x.port(0, 0), MASTER);
        Check.due("what the other end heard stays", x.heard(0, 0, 0), 20);
        x.tick();
        isFresh("a tick later", x, 1, 0);
        ClockNet y = Nets.ticks(Nets.cable(2, 1, 1), 10);
        y.power(1, false);
        isFresh("all ports", y, 1, 0);
        isFresh("all ports", y, 1, 1);
        goesDownWithALag();
        goesDownWithAnOpenSync();
    }

    private static void goesDownWithALag() {
        ClockNet x = Nets.pair(11);
        x.power(1, false);
        x.power(1, true);
        for (int t = 12; t <= 16; t++) {
            Nets.loseAllBut(x, Nets.FOLLOW, -1);
            x.tick();
        }
        Check.due("16: request 14 was answered", x.look(1, 5), 0);
        Check.due("16: there was no lag", x.look(1, 4), 0);
    }

    /**
     * Sync 22 comes by the fast way at 25; the clock goes down and up and is a slave again at 26, by the announcement
     * that was sent at 20; the follow 22 comes by the slow way at 28.
     */
    private static void goesDownWithAnOpenSync() {
        ClockNet x = Nets.twoWays(22);
        Nets.loseOn(x, Nets.FOLLOW, 22, 0);
        Nets.ticks(x, 3);
        x.power(2, false);
        x.power(2, true);
        for (int t = 26; t <= 32; t++) {
            Nets.loseAllBut(x, Nets.FOLLOW, 22);
            Nets.loseAllBut(x, Nets.SYNC, -1);
            x.tick();
            if (t == 26) {
                Check.due("26: a slave, with a request", x.look(2, 5), 1);
            }
        }
        Check.due("32: request 26 was answered", x.look(2, 5), 0);
        Check.due("32: follow 22 found no open sync", x.look(2, 4), 0);
    }

    private static void comesUp() {
        ClockNet x = Nets.uneven(15);
        x.power(1, false);
        Nets.ticks(x, 9);
        x.grade(1, 25, 6, 0);
        x.power(1, true);
        isFresh("up", x, 1, 0);
        x.tick();
        Check.due("25: a master at its first decision", x.port(1, 0), MASTER);
        Nets.ticks(x, 2);
        Check.due("27: a slave by the announcement of 24", x.port(1, 0), SLAVE);
        Check.due("27: no mean yet", x.look(1, 4), 0);
    }
}
