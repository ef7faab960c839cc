/** The sentences of the document that say a thing as a whole and name no edge of it: each has its test. */
public final class PlainTest {
    private static final int MASTER = 1;
    private static final int SLAVE = 2;
    private static final int PASSIVE = 3;

    private PlainTest() {
    }

    public static void main(String[] args) {
        whatItIs();
        terms();
        promises();
        Check.end("PlainTest");
    }

    private static void whatItIs() {
        Check.sentence("A network of clocks that agree on the best of them and follow it: announcements say who is"
                + " best, ports become masters and slaves, ", PlainTest::theyAgreeOnTheBest);
        Check.sentence("slaves measure how late messages come and steer their clocks, boundary clocks pass the time"
                + " on, transparent ones add how long they held a message.", PlainTest::theyFollowIt);
        Check.sentence("An object is used for at most 512 calls after it has been made; what later calls answer is"
                + " free.", PlainTest::fiveHundredAndTwelveCalls);
    }

    private static void terms() {
        Check.sentence("A GRADE is five numbers: priority, class, and number of the BEST clock known, STEPS to it, and"
                + " the number of the clock that SAYS so.", PlainTest::fiveNumbers);
        Check.sentence("A clock that is not transparent has, for what it measures: ", PlainTest::whoMeasures);
        Check.sentence("MESSAGES have a TYPE: 0 ANNOUNCE, 1 SYNC, 2 FOLLOW, 3 REQUEST, 4 ANSWER",
                PlainTest::fiveTypes);
        Check.sentence("a SENDER (a clock), ", PlainTest::senderOfAMessage);
        Check.sentence("a NUMBER, a TIME and a CORRECTION (longs), HOPS, ", PlainTest::numbersOfAMessage);
        Check.sentence("and an announce a grade", PlainTest::gradeOfAnAnnounce);
        Check.sentence("A message that is sent over a link is ON IT from an end to the other", PlainTest::onItsLink);
        Check.sentence("To others, by type: ", PlainTest::nobodyElsePassesOn);
        Check.sentence("number, the clock's reading, and the correction are kept, OPEN", PlainTest::whatASyncLeaves);
        Check.sentence("STEERED: E is (float) LAG - mean.", PlainTest::errorAsAFloat);
        Check.sentence("Then the DECISION: B is the best grade heard at its ports ", PlainTest::bestOfItsPorts);
        Check.sentence("Otherwise the best clock and steps are those of B", PlainTest::bestAndStepsOfB);
    }

    private static void promises() {
        Check.sentence("A clock has other numbers ", PlainTest::otherNumbers);
        Check.sentence("The state of the port of clock c on link l", PlainTest::stateOfEachPort);
        Check.sentence("Of message i on links: what 0 type, 1 sender, 2 receiver, 3 number, 4 hops, 5 link, 6 the clock"
                + " to which it goes, ", PlainTest::partsOfAMessage);
        Check.sentence("what 0 how many messages are on links, ", PlainTest::howManyAreOnLinks);
    }

    /**
     * The best is clock 0; the boundary clock 1 stands between it and the transparent clock 2, which has the ordinary
     * clocks 3 and 4 behind it. All drift, and clock 3 begins far off.
     */
    private static ClockNet allKinds(int ticks) {
        ClockNet x = new ClockNet();
        x.clock(0, 10, 6, 3);
        x.clock(1, 20, 6, -20);
        x.clock(2, 0, 0, 50);
        x.clock(0, 30, 6, 40);
        x.clock(0, 40, 6, -50);
        x.link(0, 1, 2, 2);
        x.link(1, 2, 1, 1);
        x.link(2, 3, 1, 1);
        x.link(4, 2, 3, 3);
        x.set(3, 7000000);
        return Nets.ticks(x, ticks);
    }

    private static void theyAgreeOnTheBest() {
        ClockNet x = allKinds(3);
        for (int c = 0; c < 5; c++) {
            Check.due("3: nothing is announced yet: best of " + c, x.look(c, 0), c);
        }
        Nets.ticks(x, 27);
        int[] steps = {0, 1, 0, 2, 2};
        for (int c = 0; c < 5; c++) {
            Check.due("30: best of " + c, x.look(c, 0), c == 2 ? 2 : 0);
            Check.due("30: steps of " + c, x.look(c, 1), steps[c]);
        }
        Check.due("30: the best one", x.port(0, 0), MASTER);
        Check.due("30: the boundary clock toward it", x.port(1, 0), SLAVE);
        Check.due("30: the boundary clock toward the others", x.port(1, 1), MASTER);
        Check.due("30: behind the transparent one", x.port(3, 2), SLAVE);
        Check.due("30: behind the transparent one", x.port(4, 3), SLAVE);
    }

    private static void near(String what, double got, double want, double by) {
        Check.holds(what + " is " + got + ", near " + want, got > want - by && got < want + by);
    }

    private static void theyFollowIt() {
        ClockNet x = allKinds(480);
        for (int c : new int[] {1, 3, 4}) {
            near("480: clock " + c + " apart from the best", x.apart(c, 0), 0, 0.05);
        }
        near("480: how late messages come over two ticks", x.mean(1), 2000, 30);
        // A sync comes three ticks late, less what the transparent clock held it and its follow, a tick each.
        near("480: over one tick and one, and one held", x.mean(3), 3000 - 2000, 30);
        near("480: over one tick and three, and one held", x.mean(4), 5000 - 2000, 50);
        Check.due("480: the transparent one is not steered", x.reading(2), 480 * 1050L);
    }

    private static void fiveHundredAndTwelveCalls() {
        ClockNet x = new ClockNet();
        x.clock(0, 10, 6, 0);
        x.clock(0, 20, 6, 0);
        x.link(0, 1, 3, 1);
        for (int call = 4; call <= 511; call++) {
            x.tick();
        }
        Check.due("the 512th call: NOW", x.count(2), 508);
        ClockNet y = new ClockNet();
        for (int call = 1; call <= 511; call++) {
            Check.due("message 0 before there is one", y.message(0, 0), -1);
        }
        Check.due("the 512th call: a clock", y.clock(0, 10, 6, 0), 0);
    }

    /** Clock 3 is the best; clock 1 follows it and tells clock 0. */
    private static ClockNet bestIsThree(int ticks) {
        ClockNet x = new ClockNet();
        x.clock(0, 70, 71, 0);
        x.clock(1, 50, 51, 0);
        x.clock(2, 0, 0, 0);
        x.clock(0, 40, 41, 0);
        x.link(0, 1, 1, 1);
        x.link(1, 3, 1, 1);
        return Nets.ticks(x, ticks);
    }

    private static void fiveNumbers() {
        ClockNet x = bestIsThree(9);
        Check.due("priority of the best", x.heard(0, 0, 0), 40);
        Check.due("class of the best", x.heard(0, 0, 1), 41);
        Check.due("number of the best", x.heard(0, 0, 2), 3);
        Check.due("steps from who says so", x.heard(0, 0, 3), 1);
        Check.due("who says so", x.heard(0, 0, 4), 1);
    }

    private static void whoMeasures() {
        ClockNet x = allKinds(200);
        for (int c : new int[] {1, 3, 4}) {
            Check.due("a slave has a mean: " + c, x.look(c, 4), 1);
        }
        Check.due("the best one needs none", x.look(0, 4), 0);
        Check.due("a transparent one has none", x.look(2, 4), 0);
        Check.due("nor asks", x.look(2, 5), 0);
        Check.dueFloat("nor has a sum", x.sum(2), 0.0f);
        Check.due("nor an ADJUST", x.look(2, 3), 0);
    }

    private static void fiveTypes() {
        ClockNet x = Nets.pair(4);
        Check.due("4: an announcement", x.message(0, 0), 0);
        Check.due("4: a sync", x.message(1, 0), 1);
        Check.due("4: a follow", x.message(2, 0), 2);
        Nets.ticks(x, 2);
        Check.due("6: a request", x.message(2, 0), 3);
        x.tick();
        Check.due("7: an answer", x.message(0, 0), 4);
    }

    private static void senderOfAMessage() {
        ClockNet x = Nets.star(5);
        int[] senders = {0, 0, 0, 0, 0, 0, 2, 2, 2, 2, 2, 2, 3, 3, 3, 3, 3, 3};
        Check.due("5: two of each of three kinds from three clocks", x.count(0), senders.length);
        for (int i = 0; i < senders.length; i++) {
            Check.due("5: sent on by clock 1, but the sender of " + i, x.message(i, 1), senders[i]);
        }
        ClockNet y = Nets.row(3, 8);
        Check.due("8: what a boundary clock tells is its own", y.message(Nets.find(y, Nets.ANNOUNCE, 1), 6), 2);
    }

    private static void numbersOfAMessage() {
        ClockNet x = Nets.chain(1);
        x.set(0, 999999999999L);
        Nets.ticks(x, 3);
        Check.due("3: the follow", x.message(1, 0), Nets.FOLLOW);
        Check.due("3: number", x.message(1, 3), 2);
        Check.due("3: time, beyond an int", x.stamp(1, false), 1000000001999L);
        Check.due("3: correction", x.stamp(1, true), 1000);
        Check.due("3: hops", x.message(1, 4), 1);
        Check.due("3: number of its sync", x.message(0, 3), 2);
        Check.due("3: time of its sync", x.stamp(0, false), 0);
    }

    private static void gradeOfAnAnnounce() {
        ClockNet x = Nets.ticks(Nets.cable(1, 5, 5), 4);
        x.grade(0, 15, 16, 0);
        Nets.ticks(x, 5);
        int[] due = {10, 6, 0, 0, 0, 9};
        for (int what = 0; what < 6; what++) {
            Check.due("9: what was sent at 4, what " + what, x.heard(1, 0, what), due[what]);
        }
        ClockNet y = Nets.ticks(Nets.chain(4), 13);
        int[] held = {10, 6, 0, 0, 0, 13};
        for (int what = 0; what < 6; what++) {
            Check.due("13: over four transparent clocks, what " + what, y.heard(5, 4, what), held[what]);
        }
    }

    private static void onItsLink() {
        ClockNet x = Nets.row(3, 2);
        int[] links = {0, 0, 0, 0, 1, 1, 1, 1};
        int[] to = {1, 1, 0, 0, 2, 2, 1, 1};
        for (int i = 0; i < links.length; i++) {
            Check.due("2: link of message " + i, x.message(i, 5), links[i]);
            Check.due("2: it goes to", x.message(i, 6), to[i]);
        }
    }

    private static void nobodyElsePassesOn() {
        ClockNet x = Nets.row(3, 2);
        Check.due("3: to boundary clocks", x.tick(), 8);
        Check.due("3: they send nothing on", x.count(0), 0);
        Check.due("3: nor lose it", x.count(1), 0);
        ClockNet y = Nets.pair(7);
        Check.due("7: only a request makes a message", y.count(0), 1);
        Check.due("8: the answer comes", y.tick(), 1);
        Check.due("8: what is sent is the master's own", Nets.find(y, Nets.ANSWER, 0), -1);
    }

    /**
     * Sync 22 comes by the fast way at 25, its follow by the slow way at 28; no other sync comes between them, nor an
     * answer. At 27 the reading is set: what was kept at 25 counts.
     */
    private static void whatASyncLeaves() {
        ClockNet x = Nets.twoWays(22);
        Nets.loseOn(x, Nets.SYNC, 22, 1);
        Nets.loseOn(x, Nets.FOLLOW, 22, 0);
        Nets.loseOn(x, Nets.SYNC, 20, 1);
        Nets.loseOn(x, Nets.FOLLOW, 20, 1);
        Nets.ticks(x, 2);
        Nets.loseOn(x, Nets.SYNC, 24, 0);
        Nets.loseOn(x, Nets.FOLLOW, 24, 0);
        x.tick();
        long kept = x.reading(2);
        Nets.ticks(x, 2);
        x.set(2, kept + 4000);
        float mean = x.mean(2);
        float sum = x.sum(2);
        x.tick();
        Check.dueFloat("28: no answer came", x.mean(2), mean);
        float error = (float) (kept - 22000 - 1000 - 1000) - mean;
        Check.holds("28: it is steered a little", error < -1000.0f && error > -2000.0f);
        Check.dueFloat("28: sum", x.sum(2), sum + error * 0.0625f);
    }

    /** The readings that are set make a mean of 40000000 and then this lag; floats of that size are 4 apart. */
    private static ClockNet farBack(long lag) {
        ClockNet x = Nets.pair(5);
        x.set(1, 7000 - 40000003L - 1000);
        x.tick();
        x.set(1, 6000 + 40000001L - 1000);
        Nets.ticks(x, 2);
        Check.dueFloat("8: mean", x.mean(1), 40000000.0f);
        x.set(1, 8000 + lag - 1000);
        x.tick();
        return x;
    }

    private static void errorAsAFloat() {
        Check.dueFloat("40000001 becomes 40000000: sum", farBack(40000001).sum(1), 0.0f);
        Check.due("40000001 becomes 40000000: ADJUST", farBack(40000001).look(1, 3), 0);
        Check.dueFloat("40000003 becomes 40000004: sum", farBack(40000003).sum(1), 0.25f);
        Check.due("40000003 becomes 40000004: ADJUST", farBack(40000003).look(1, 3), -1);
        Check.due("a jump by 5004: reading", farBack(40005003).reading(1), 8000 + 40005003L - 5004);
        ClockNet less = Nets.pair(8);
        less.set(1, 8000 + 900 - 1000);
        less.tick();
        Check.dueFloat("a lag of 900 less a mean of 1000: sum", less.sum(1), -6.25f);
        Check.due("a lag of 900 less a mean of 1000: ADJUST", less.look(1, 3), 31);
    }

    private static void bestOfItsPorts() {
        int[] priorities = {30, 10, 20};
        for (int first = 0; first < 3; first++) {
            ClockNet x = new ClockNet();
            x.clock(1, 200, 6, 0);
            int best = 0;
            for (int i = 0; i < 3; i++) {
                int priority = priorities[(first + i) % 3];
                x.clock(0, priority, 6, 0);
                x.link(0, 1 + i, 1, 1);
                best = priority == 10 ? i : best;
            }
            Nets.ticks(x, 5);
            Check.due("5: the best is on link " + best, x.look(0, 2), best);
            for (int l = 0; l < 3; l++) {
                Check.due("5: state on link " + l, x.port(0, l), l == best ? SLAVE : MASTER);
            }
        }
    }

    private static void bestAndStepsOfB() {
        ClockNet x = Nets.row(4, 20);
        for (int c = 0; c < 4; c++) {
            Check.due("best of " + c, x.look(c, 0), 0);
            Check.due("steps of " + c, x.look(c, 1), c);
        }
        ClockNet y = bestIsThree(9);
        Check.due("best", y.look(0, 0), 3);
        Check.due("steps", y.look(0, 1), 2);
    }

    private static void otherNumbers() {
        ClockNet x = Nets.pair(8);
        x.grade(1, 3, 4, 0);
        Nets.ticks(x, 5);
        Check.due("13: priority, as heard", x.heard(0, 0, 0), 3);
        Check.due("13: class, as heard", x.heard(0, 0, 1), 4);
        Check.due("13: the other follows", x.look(0, 0), 1);
        ClockNet y = Nets.pair(0);
        y.grade(1, 20, 6, 50);
        Nets.ticks(y, 1);
        long before = y.reading(1);
        Nets.ticks(y, 3);
        Check.due("drift", y.reading(1) - before, 3 * 1050);
        Check.due("the other one's drift", y.reading(0), 4000);
    }

    private static void stateOfEachPort() {
        ClockNet x = new ClockNet();
        for (int c = 0; c < 3; c++) {
            x.clock(1, 10 * (c + 1), 6, 0);
        }
        x.link(0, 1, 1, 1);
        x.link(0, 2, 1, 1);
        x.link(1, 2, 1, 1);
        x.link(2, 0, 1, 1);
        Nets.ticks(x, 9);
        int[] clocks = {0, 1, 0, 2, 1, 2, 2, 0};
        int[] due = {MASTER, SLAVE, MASTER, SLAVE, MASTER, PASSIVE, PASSIVE, MASTER};
        for (int i = 0; i < clocks.length; i++) {
            Check.due("9: clock " + clocks[i] + " on link " + i / 2, x.port(clocks[i], i / 2), due[i]);
        }
    }

    private static void partsOfAMessage() {
        ClockNet x = Nets.star(11);
        int r = Nets.find(x, Nets.REQUEST, 3);
        int[] due = {3, 3, 0, 10, 1, 0, 0};
        for (int what = 0; what < due.length; what++) {
            Check.due("11: a request that is sent on, what " + what, x.message(r, what), due[what]);
        }
        int[] other = {3, 3, 0, 10, 1, 1, 2};
        for (int what = 0; what < other.length; what++) {
            Check.due("11: the same on another link, what " + what, x.message(r + 1, what), other[what]);
        }
    }

    private static void howManyAreOnLinks() {
        ClockNet x = Nets.uneven(0);
        Check.due("at first", x.count(0), 0);
        int[] due = {0, 4, 2, 8, 3, 7, 2, 5};
        for (int t = 1; t <= due.length; t++) {
            x.tick();
            Check.due(t + ": on links", x.count(0), due[t - 1]);
        }
        x.lose(0);
        Check.due("8: one is lost", x.count(0), 4);
    }
}
