/** The sentences of 'Terms' on messages: when they come, when they are lost, and who takes them. Each has its test. */
public final class MessageEdgeTest {
    private MessageEdgeTest() {
    }

    public static void main(String[] args) {
        Check.sentence("ON IT from an end to the other until it comes at NOW + the delay that way",
                MessageEdgeTest::onLinksTillItComes);
        Check.sentence("a RECEIVER (a clock; 9 for all)", MessageEdgeTest::nineIsForAll);
        Check.sentence("At most 60 messages are on links, in the order in which they were sent",
                MessageEdgeTest::sixtyFindRoom);
        Check.sentence("one that is sent when there are so many, ", MessageEdgeTest::theSixtyFirstIsLost);
        Check.sentence("or over a link that is down, is lost", MessageEdgeTest::sentOverADownLink);
        Check.sentence("when a link goes down, those on it are lost", MessageEdgeTest::linkGoesDown);
        Check.sentence("What comes to a clock that is down is lost.", MessageEdgeTest::comesToADownClock);
        Check.sentence("To a TRANSPARENT clock: if HOPS is 4 it is lost", MessageEdgeTest::hopsAtMostFour);
        Check.sentence("otherwise it is sent on over each other link of that clock, by number",
                MessageEdgeTest::overEachOtherLink);
        Check.sentence("coming one tick later than by the delay alone, with 1000 added to its correction and 1 to its"
                + " hops", MessageEdgeTest::oneTickLater);
        Check.sentence("ANNOUNCE: if the best clock in its grade is the clock itself", MessageEdgeTest::bestIsItself);
        Check.sentence("or STEPS is 6 or more, nothing", MessageEdgeTest::stepsAtMostFive);
        Check.sentence("Otherwise, if the port has heard no grade, ", MessageEdgeTest::noGradeHeard);
        Check.sentence("or the sender is the one that said the heard grade", MessageEdgeTest::sameSender);
        Check.sentence("or the message's grade is better, that grade is heard, NOW", MessageEdgeTest::betterGrade);
        Check.sentence("SYNC, if the port is a slave and the sender said the heard grade",
                MessageEdgeTest::syncOfAnother);
        Check.sentence("FOLLOW, likewise, ", MessageEdgeTest::followOfAnother);
        Check.sentence("with the number of the open sync", MessageEdgeTest::followOfTheOpenSync);
        Check.sentence("no sync is open; then the clock is STEERED", MessageEdgeTest::aSyncIsFollowedOnce);
        Check.sentence("REQUEST, if the clock is the receiver ", MessageEdgeTest::requestToAnother);
        Check.sentence("and the port is a master: an ANSWER over that link to the sender",
                MessageEdgeTest::requestToNoMaster);
        Check.sentence("with its number, its correction, and the clock's reading as TIME", MessageEdgeTest::answer);
        Check.sentence("ANSWER, if the clock is the receiver, ", MessageEdgeTest::answerToAnother);
        Check.sentence("with the number of the open request: no request is open any more",
                MessageEdgeTest::answerOfTheOpenRequest);
        Check.sentence("All else in messages is 0 at first.", MessageEdgeTest::allElseIsZero);
        Check.sentence("2. The messages that come, in the order in which they were sent, each off its link first; ",
                MessageEdgeTest::eachOffItsLinkFirst);
        Check.sentence("what is sent by that is behind all others", MessageEdgeTest::behindAllOthers);
        Check.end("MessageEdgeTest");
    }

    private static void onLinksTillItComes() {
        ClockNet x = Nets.ticks(Nets.cable(1, 5, 1), 2);
        Check.due("2: the first goes to", x.message(0, 6), 1);
        Check.due("2: and comes", x.message(0, 7), 7);
        Check.due("2: the third goes to", x.message(2, 6), 0);
        Check.due("2: and comes", x.message(2, 7), 3);
        Check.due("3: those from 1 come", x.tick(), 2);
        Nets.ticks(x, 3);
        Check.due("6: the one from 0 is still the first", x.message(0, 3), 2);
        Check.due("7: it comes, with its follow and those that 1 sent at 6", x.tick(), 4);
        Check.due("7: the first is another", x.message(0, 3) == 2 ? 1 : 0, 0);
    }

    private static void nineIsForAll() {
        ClockNet x = Nets.pair(4);
        for (int i = 0; i < 6; i++) {
            Check.due("4: message " + i, x.message(i, 2), 9);
        }
        Nets.ticks(x, 2);
        Check.due("6: a request is for the clock that said the grade", x.message(2, 2), 0);
        x.tick();
        Check.due("7: an answer is for the one that asked", x.message(0, 2), 1);
    }

    /** At tick 3 forty are on ten links; with so many of them lost, sixty more are sent at tick 4. */
    private static ClockNet crowded(int losses) {
        ClockNet x = Nets.ticks(Nets.cable(10, 5, 5), 3);
        Check.due("3: on links", x.count(0), 40);
        for (int i = 0; i < losses; i++) {
            x.lose(0);
        }
        x.tick();
        return x;
    }

    private static void sixtyFindRoom() {
        ClockNet x = crowded(40);
        Check.due("on links", x.count(0), 60);
        Check.due("lost, all by lose()", x.count(1), 40);
        Check.due("the first is an announcement", x.message(0, 0), Nets.ANNOUNCE);
        Check.due("the last is a follow", x.message(59, 0), Nets.FOLLOW);
        Check.due("of clock 1", x.message(59, 1), 1);
        Check.due("on link 9", x.message(59, 5), 9);
        Check.due("there is no other", x.message(60, 0), -1);
    }

    private static void theSixtyFirstIsLost() {
        ClockNet x = crowded(39);
        Check.due("on links", x.count(0), 60);
        Check.due("lost: the last too", x.count(1), 40);
        Check.due("the first is the follow that was left", x.message(0, 3), 2);
        Check.due("the last is the sync before it", x.message(59, 0), Nets.SYNC);
        Check.due("on link 9", x.message(59, 5), 9);
        x.lose(30);
        x.tick();
        Check.due("5: nothing is sent", x.count(0), 59);
        x.tick();
        Check.due("6: one finds room", x.count(0), 60);
        Check.due("6: it is the first that is sent", x.message(59, 0), Nets.SYNC);
        Check.due("6: on link 0", x.message(59, 5), 0);
        Check.due("6: all others are lost", x.count(1), 40 + 1 + 39);
    }

    private static void sentOverADownLink() {
        ClockNet x = Nets.star(2);
        x.join(1, false);
        Check.due("those on it are lost", x.count(1), 2);
        Check.due("3: the others come", x.tick(), 4);
        Check.due("3: over it four are lost", x.count(1), 6);
        Check.due("3: over the others four are sent", x.count(0), 4);
        ClockNet y = Nets.star(2);
        y.join(1, false);
        y.join(1, true);
        y.tick();
        Check.due("up again: nothing more is lost", y.count(1), 2);
        Check.due("up again: all are sent on", y.count(0), 8);
        ClockNet z = Nets.pair(0);
        z.join(0, false);
        Nets.ticks(z, 8);
        Check.due("listening ports send nothing that could be lost", z.count(1), 0);
    }

    private static void linkGoesDown() {
        ClockNet x = Nets.ticks(Nets.cable(2, 5, 5), 2);
        x.join(0, false);
        Check.due("both ways", x.count(1), 4);
        Check.due("the others stay", x.count(0), 4);
        for (int i = 0; i < 4; i++) {
            Check.due("on link 1", x.message(i, 5), 1);
            Check.due("in their order", x.message(i, 1), i / 2);
        }
        x.join(0, true);
        Check.due("they don't come back", x.count(0), 4);
        ClockNet y = Nets.pair(3);
        y.join(0, false);
        Check.due("none was on it", y.count(1), 0);
        ClockNet full = crowded(0);
        Check.due("sixty: on links", full.count(0), 60);
        full.join(0, false);
        Check.due("sixty: those of 2 and the announcement, sync and follow of 4", full.count(0), 60 - 4 - 3);
        full.join(9, false);
        Check.due("sixty: those of 2 alone", full.count(0), 60 - 4 - 3 - 4);
        Check.due("sixty: lost", full.count(1), 40 + 11);
    }

    private static void comesToADownClock() {
        ClockNet x = Nets.pair(2);
        x.power(1, false);
        Check.due("nothing is lost before it comes", x.count(1), 0);
        Check.due("they come", x.tick(), 4);
        Check.due("two are lost", x.count(1), 2);
        ClockNet y = Nets.pair(2);
        y.power(1, false);
        y.power(1, true);
        Check.due("up again: they come", y.tick(), 4);
        Check.due("up again: nothing is lost", y.count(1), 0);
        ClockNet z = Nets.star(2);
        z.power(1, false);
        Check.due("to a transparent one that is down", z.tick(), 6);
        Check.due("they are lost", z.count(1), 6);
        Check.due("and not sent on", z.count(0), 0);
        ClockNet own = Nets.pair(4);
        own.power(0, false);
        own.tick();
        Check.due("what a clock sent before it went down is heard", own.heard(1, 0, 2), 0);
        Check.due("what came to it is lost", own.count(1), 3);
    }

    private static void hopsAtMostFour() {
        ClockNet x = Nets.ticks(Nets.chain(4), 8);
        Check.due("8: three hops before the fourth", withHops(x, 3), 4);
        x.tick();
        Check.due("9: with three hops they are sent on", withHops(x, 4), 4);
        Nets.ticks(x, 21);
        Check.due("30: nothing was lost", x.count(1), 0);
        Check.due("30: it follows over four", x.look(5, 0), 0);
        ClockNet y = Nets.ticks(Nets.chain(5), 10);
        Check.due("10: four hops before the fifth", withHops(y, 4), 4);
        Check.due("10: nothing is lost", y.count(1), 0);
        Check.due("11: those of 2, 4, 6, 8 and 10 come", y.tick(), 4 + 6 + 4 + 6 + 4);
        Check.due("11: those of 2 had four hops and are lost", y.count(1), 4);
        Check.due("11: the others are sent on", y.count(0), 6 + 4 + 6 + 4);
        Check.due("11: none has more than four hops", withHops(y, 5), 0);
        Nets.ticks(y, 19);
        Check.due("30: it does not follow over five", y.look(6, 0), 6);
    }

    private static int withHops(ClockNet x, int hops) {
        int found = 0;
        for (int i = 0; i < x.count(0); i++) {
            if (x.message(i, 4) == hops) {
                Check.due("correction of what has " + hops + " hops", x.stamp(i, true), 1000L * hops);
                found++;
            }
        }
        return found;
    }

    private static void overEachOtherLink() {
        ClockNet x = Nets.star(3);
        int[] due = {1, 2, 1, 2, 0, 2, 0, 2, 0, 1, 0, 1};
        Check.due("two for each that came", x.count(0), due.length);
        for (int i = 0; i < due.length; i++) {
            Check.due("link of message " + i, x.message(i, 5), due[i]);
            Check.due("type of message " + i, x.message(i, 0), i / 2 % 2 == 0 ? Nets.SYNC : Nets.FOLLOW);
        }
        ClockNet none = Nets.ticks(Nets.chain(1), 2);
        none.join(1, false);
        Check.due("over the one that is down: they come", none.tick(), 2);
        Check.due("and are lost", none.count(1), 4);
        ClockNet end = new ClockNet();
        end.clock(2, 0, 0, 0);
        end.clock(0, 0, 0, 0);
        end.link(1, 0, 1, 1);
        Nets.ticks(end, 2);
        Check.due("no other link: they come", end.tick(), 2);
        Check.due("and are not lost", end.count(1), 0);
        Check.due("but gone", end.count(0), 0);
        ClockNet back = new ClockNet();
        back.clock(2, 0, 0, 0);
        back.clock(1, 0, 0, 0);
        back.link(1, 0, 1, 1);
        back.link(0, 1, 1, 1);
        Nets.ticks(back, 3);
        Check.due("another link to the same clock", back.count(0), 4);
        Check.due("what came over 0 goes over 1", back.message(0, 5), 1);
        Check.due("what came over 1 goes over 0", back.message(2, 5), 0);
    }

    private static void oneTickLater() {
        ClockNet x = new ClockNet();
        x.clock(0, 10, 6, 0);
        x.clock(2, 0, 0, 50);
        x.clock(0, 20, 6, 0);
        x.link(0, 1, 1, 1);
        x.link(1, 2, 5, 1);
        Nets.ticks(x, 3);
        Check.due("3: to clock 2 it comes", x.message(0, 7), 3 + 5 + 1);
        Check.due("3: its hops", x.message(0, 4), 1);
        Check.due("3: its correction, whatever the drift", x.stamp(0, true), 1000);
        Check.due("3: to clock 0 it comes", x.message(2, 7), 3 + 1 + 1);
        Check.due("3: time stays", x.stamp(1, false), 2000);
        Check.due("3: number stays", x.message(1, 3), 2);
        Check.due("3: receiver stays", x.message(1, 2), 9);
        ClockNet y = Nets.ticks(Nets.chain(2), 5);
        Check.due("5: those of 2 were held a second time", withHops(y, 2), 4);
        Check.due("5: those of 4 the first time", withHops(y, 1), 6);
    }

    /** Link 1 is slow from 0 to 1: clock 1 tells clock 0 there what it heard on link 0. */
    private static void bestIsItself() {
        ClockNet x = new ClockNet();
        x.clock(1, 10, 6, 0);
        x.clock(1, 20, 6, 0);
        x.link(0, 1, 1, 1);
        x.link(0, 1, 5, 1);
        Nets.ticks(x, 8);
        Check.due("8: an announcement is on link 1 to clock 0", announcementTo(x, 0) >= 0 ? 1 : 0, 1);
        Check.due("8: heard at clock 0 on link 1", x.heard(0, 1, 5), 5);
        x.tick();
        Check.due("9: it came, and nothing is heard: time", x.heard(0, 1, 5), 5);
        Check.due("9: best", x.heard(0, 1, 2), 1);
        Check.due("9: steps", x.heard(0, 1, 3), 0);
        ClockNet y = new ClockNet();
        y.clock(1, 10, 6, 0);
        y.clock(2, 0, 0, 0);
        y.link(0, 1, 1, 1);
        y.link(0, 1, 1, 1);
        Nets.ticks(y, 12);
        Check.due("its own announcement comes back", y.heard(0, 0, 5), -1);
        Check.due("its own announcement comes back", y.heard(0, 1, 5), -1);
    }

    private static int announcementTo(ClockNet x, int clock) {
        for (int i = 0; i < x.count(0); i++) {
            if (x.message(i, 0) == Nets.ANNOUNCE && x.message(i, 6) == clock) {
                return i;
            }
        }
        return -1;
    }

    private static void stepsAtMostFive() {
        ClockNet x = Nets.row(8, 60);
        Check.due("5 steps are heard", x.heard(6, 5, 3), 5);
        Check.due("so clock 6 is 6 away", x.look(6, 1), 6);
        Check.due("and follows", x.look(6, 0), 0);
        Check.due("6 steps are not heard", x.heard(7, 6, 3), -1);
        Check.due("so clock 7 leads", x.look(7, 0), 7);
        Check.due("0 steps away", x.look(7, 1), 0);
        Check.due("as a master", x.port(7, 6), 1);
    }

    private static void noGradeHeard() {
        ClockNet x = Nets.pair(4);
        Check.due("4: none", x.heard(0, 0, 5), -1);
        x.tick();
        Check.due("5: the first, though worse than the own", x.heard(0, 0, 0), 20);
        Check.due("5: NOW", x.heard(0, 0, 5), 5);
        ClockNet y = Nets.star(7);
        y.power(0, false);
        y.power(0, true);
        Check.due("7: none again", y.heard(0, 0, 5), -1);
    }

    private static void sameSender() {
        ClockNet x = Nets.star(8);
        x.grade(0, 15, 6, 0);
        Nets.ticks(x, 3);
        Check.due("11: what it sent at 8 is the same as before", x.heard(3, 2, 0), 10);
        Check.due("11: heard NOW", x.heard(3, 2, 5), 11);
        Nets.ticks(x, 4);
        Check.due("15: what it sent at 12 is worse", x.heard(3, 2, 0), 15);
        Check.due("15: heard NOW", x.heard(3, 2, 5), 15);
        Check.due("15: by the same", x.heard(3, 2, 4), 0);
    }

    /** Clock 4 hears clocks 1 and 2, which both follow clock 0, through the transparent clock 3; clock 1 later. */
    private static ClockNet twoTellers(int ticks) {
        ClockNet x = new ClockNet();
        x.clock(1, 10, 6, 0);
        x.clock(1, 20, 6, 0);
        x.clock(1, 30, 6, 0);
        x.clock(2, 0, 0, 0);
        x.clock(0, 40, 6, 0);
        x.link(0, 1, 1, 1);
        x.link(0, 2, 1, 1);
        x.link(1, 3, 2, 1);
        x.link(2, 3, 1, 1);
        x.link(3, 4, 1, 1);
        return Nets.ticks(x, ticks);
    }

    private static void betterGrade() {
        ClockNet x = twoTellers(10);
        Check.due("10: the own grade of 1", x.heard(4, 4, 0), 20);
        x.tick();
        Check.due("11: what 2 says is better", x.heard(4, 4, 0), 10);
        Check.due("11: who says so", x.heard(4, 4, 4), 2);
        Check.due("11: NOW", x.heard(4, 4, 5), 11);
        x.tick();
        Check.due("12: what 1 says is better by who says so", x.heard(4, 4, 4), 1);
        Check.due("12: NOW", x.heard(4, 4, 5), 12);
        ClockNet y = Nets.star(7);
        Check.due("7: the better came first, the worse is not heard", y.heard(3, 2, 2), 0);
        Check.due("7: and the worse of two others", y.heard(0, 0, 2), 2);
        ClockNet z = Nets.star(5);
        loseAnnouncement(z, 0, 2);
        loseAnnouncement(z, 2, 2);
        z.power(0, false);
        Nets.ticks(z, 5);
        Check.due("10: the worse one is a master and comes next", z.message(0, 1), 3);
        z.tick();
        Check.due("11: it is not heard: who says so", z.heard(2, 1, 4), 0);
        Check.due("11: nor makes what was heard younger", z.heard(2, 1, 5), 7);
    }

    /** As a star, but what clock 0 sends comes 2 ticks later; clock 3 leads from tick 21 on, so it sends sync 22. */
    private static ClockNet strangerSyncsFirst() {
        ClockNet x = new ClockNet();
        x.clock(0, 10, 6, 0);
        x.clock(2, 0, 0, 0);
        x.clock(0, 20, 6, 0);
        x.clock(0, 30, 6, 0);
        x.link(0, 1, 3, 1);
        x.link(1, 2, 1, 1);
        x.link(1, 3, 1, 1);
        Nets.ticks(x, 20);
        Check.due("20: clock 2 has a mean", x.look(2, 4), 1);
        x.grade(3, 1, 1, 0);
        return Nets.ticks(x, 5);
    }

    private static void syncOfAnother() {
        ClockNet x = strangerSyncsFirst();
        Check.due("25: the stranger's has come, ours is on its last link", syncFrom0To2(x) >= 0 ? 1 : 0, 1);
        x.lose(syncFrom0To2(x));
        x.tick();
        float sum = x.sum(2);
        int adjust = x.look(2, 3);
        loseAnnouncement(x, 3, 1);
        x.tick();
        Check.due("27: still a slave of 0", x.heard(2, 1, 4), 0);
        Check.dueFloat("27: follow 22 finds no sync of its number: sum", x.sum(2), sum);
        Check.due("27: ADJUST", x.look(2, 3), adjust);
        ClockNet y = strangerSyncsFirst();
        y.tick();
        loseAnnouncement(y, 3, 1);
        y.tick();
        Check.due("27: with its sync it does", y.sum(2) != sum ? 1 : 0, 1);
        ClockNet z = Nets.pair(5);
        Nets.loseAllBut(z, Nets.FOLLOW, -1);
        // Sync 4 and follow 4 came to a port that became a slave only behind them: no lag.
        z.tick();
        Nets.loseOne(z, Nets.SYNC, 0);
        Nets.ticks(z, 2);
        Check.due("8: the request is answered", z.look(1, 5), 0);
        Check.due("8: what came to a master made no lag", z.look(1, 4), 0);
    }

    private static int syncFrom0To2(ClockNet x) {
        for (int i = 0; i < x.count(0); i++) {
            if (x.message(i, 0) == Nets.SYNC && x.message(i, 1) == 0 && x.message(i, 3) == 22
                    && x.message(i, 6) == 2) {
                return i;
            }
        }
        return -1;
    }

    private static void loseAnnouncement(ClockNet x, int sender, int link) {
        for (int i = 0; i < x.count(0); i++) {
            if (x.message(i, 0) == Nets.ANNOUNCE && x.message(i, 1) == sender && x.message(i, 5) == link) {
                x.lose(i);
                return;
            }
        }
        Check.tell("no announcement of " + sender + " is on link " + link);
    }

    /** As a star, but what clock 3 sends comes 2 ticks later; it leads from tick 13 on, with a reading far off. */
    private static ClockNet strangerFollowsLast() {
        ClockNet x = new ClockNet();
        x.clock(0, 10, 6, 0);
        x.clock(2, 0, 0, 0);
        x.clock(0, 20, 6, 0);
        x.clock(0, 30, 6, 0);
        x.link(0, 1, 1, 1);
        x.link(1, 2, 1, 1);
        x.link(1, 3, 1, 3);
        Nets.ticks(x, 12);
        x.grade(3, 1, 1, 0);
        x.set(3, 9000000);
        Nets.ticks(x, 2);
        Check.due("14: clock 3 sends a follow", Nets.find(x, Nets.FOLLOW, 3) >= 0 ? 1 : 0, 1);
        return x;
    }

    private static void followOfAnother() {
        ClockNet x = strangerFollowsLast();
        loseOf(x, Nets.SYNC, 3);
        loseOf(x, Nets.FOLLOW, 0);
        Nets.ticks(x, 4);
        Check.due("18: clock 2 has a mean", x.look(2, 4), 1);
        Check.due("18: and is a slave of 0", x.heard(2, 1, 4), 0);
        x.tick();
        Check.due("19: the stranger's follow does not steer", x.reading(2), 19000);
        Check.due("19: nor adjusts", x.look(2, 3), 0);
    }

    /** Loses message 14 of this type from this sender. */
    private static void loseOf(ClockNet x, int type, int sender) {
        for (int i = 0; i < x.count(0); i++) {
            if (x.message(i, 0) == type && x.message(i, 1) == sender && x.message(i, 3) == 14) {
                x.lose(i);
                return;
            }
        }
        Check.tell("no message 14 of type " + type + " from " + sender + " is on links");
    }

    /** At tick 10 sync 10 and its follow are on the link; the error will be 500. */
    private static ClockNet halfAnError() {
        ClockNet x = Nets.pair(10);
        x.set(1, 10500);
        return x;
    }

    private static void followOfTheOpenSync() {
        ClockNet x = halfAnError();
        x.tick();
        Check.due("11: with its sync", x.look(1, 3), -156);
        ClockNet none = halfAnError();
        Nets.loseNumbered(none, Nets.SYNC, 10);
        none.tick();
        Check.due("11: no sync is open", none.look(1, 3), 0);
        Check.due("11: reading", none.reading(1), 11500);
        ClockNet other = halfAnError();
        Nets.loseNumbered(other, Nets.FOLLOW, 10);
        Nets.ticks(other, 2);
        Nets.loseNumbered(other, Nets.SYNC, 12);
        other.tick();
        Check.due("13: another sync is open", other.look(1, 3), 0);
        Nets.ticks(other, 2);
        Check.due("15: the next pair", other.look(1, 3), -156);
    }

    /** Clock 2 hears each sync of clock 0 twice, since clock 0 has two links to the transparent clock. */
    private static void aSyncIsFollowedOnce() {
        ClockNet x = new ClockNet();
        x.clock(1, 10, 6, 0);
        x.clock(2, 0, 0, 0);
        x.clock(0, 20, 6, 0);
        x.link(0, 1, 1, 1);
        x.link(0, 1, 3, 1);
        x.link(1, 2, 1, 1);
        Nets.ticks(x, 22);
        Nets.loseOn(x, Nets.SYNC, 22, 1);
        Nets.ticks(x, 2);
        Nets.loseOn(x, Nets.SYNC, 24, 0);
        x.tick();
        float sum = x.sum(2);
        Check.due("25: it is steered", x.look(2, 3) != 0 ? 1 : 0, 1);
        Nets.ticks(x, 2);
        Check.dueFloat("27: the second follow 22 finds no open sync", x.sum(2), sum);
    }

    private static void requestToAnother() {
        ClockNet x = Nets.star(10);
        x.grade(3, 1, 1, 0);
        Nets.ticks(x, 3);
        Check.due("13: request 10 of clock 2 came to clock 3", x.port(3, 2), 1);
        Check.due("13: a master that is not the receiver", Nets.find(x, Nets.ANSWER, 3), -1);
        Check.due("13: the receiver answers", Nets.find(x, Nets.ANSWER, 0) >= 0 ? 1 : 0, 1);
    }

    private static void requestToNoMaster() {
        ClockNet x = Nets.pair(7);
        Check.due("7: a master answers", Nets.find(x, Nets.ANSWER, 0), 0);
        Check.due("7: over that link", x.message(0, 5), 0);
        Check.due("7: to the sender", x.message(0, 6), 1);
        ClockNet listening = Nets.pair(6);
        listening.power(0, false);
        listening.power(0, true);
        listening.tick();
        Check.due("7: it is a master again", listening.port(0, 0), 1);
        Check.due("7: but was not when the request came", Nets.find(listening, Nets.ANSWER, 0), -1);
        listening.tick();
        Check.due("8: the request is open", listening.look(1, 5), 1);
        ClockNet slave = Nets.star(10);
        slave.grade(0, 255, 255, 0);
        Nets.ticks(slave, 3);
        Check.due("13: a slave", slave.port(0, 0), 2);
        Check.due("13: does not answer", Nets.find(slave, Nets.ANSWER, 0), -1);
        // The decision at 7 comes behind the request that came at 7.
        ClockNet soon = Nets.pair(6);
        soon.join(0, false);
        soon.join(0, true);
        soon.tick();
        Check.due("7: a request on a link that went down", Nets.find(soon, Nets.ANSWER, 0), -1);
    }

    private static void answer() {
        ClockNet x = Nets.star(10);
        x.set(0, 77000);
        Nets.ticks(x, 3);
        int a = Nets.find(x, Nets.ANSWER, 0);
        int[] due = {Nets.ANSWER, 0, 2, 10, 0, 0, 1, 14};
        for (int what = 0; what < 8; what++) {
            Check.due("13: the answer, what " + what, x.message(a, what), due[what]);
        }
        Check.due("13: its correction", x.stamp(a, true), 1000);
        Check.due("13: its time", x.stamp(a, false), 80000);
    }

    private static void answerToAnother() {
        ClockNet x = Nets.star(15);
        // Both asked at tick 10: with clock 2's answer lost on its last link, only clock 3's comes to it.
        for (int i = x.count(0) - 1; i >= 0; i--) {
            if (x.message(i, 0) == Nets.ANSWER && x.message(i, 2) == 2 && x.message(i, 6) == 2) {
                x.lose(i);
            }
        }
        Check.due("15: one is lost", x.count(1), 1);
        x.tick();
        Check.due("16: clock 3 has a mean", x.look(3, 4), 1);
        Check.due("16: clock 2 has none", x.look(2, 4), 0);
        Check.due("16: its request is open", x.look(2, 5), 1);
    }

    private static void answerOfTheOpenRequest() {
        ClockNet x = Nets.pair(7);
        Check.due("7: open", x.look(1, 5), 1);
        x.tick();
        Check.due("8: answered", x.look(1, 5), 0);
        Check.due("8: a mean", x.look(1, 4), 1);
        // Request 14 goes over four transparent clocks; clock 5 forgets it and has request 18 open when it is answered.
        ClockNet other = Nets.ticks(Nets.chain(4), 15);
        Check.due("15: request 14 is open", other.look(5, 5), 1);
        other.power(5, false);
        other.power(5, true);
        Nets.ticks(other, 17);
        Check.due("32: the answer to 14 does not close request 18", other.look(5, 5), 1);
        Check.due("32: nor makes a mean", other.look(5, 4), 0);
        Nets.ticks(other, 4);
        Check.due("36: the answer to 18 does", other.look(5, 5), 0);
        Check.due("36: and makes a mean", other.look(5, 4), 1);
        ClockNet none = Nets.pair(7);
        none.power(1, false);
        none.power(1, true);
        none.tick();
        Check.due("8: no request was open", none.look(1, 4), 0);
        // Clock 2's request 6 comes to clock 1, whose own request has the same number.
        ClockNet middle = Nets.row(3, 7);
        Check.due("7: it is not the answer", middle.look(1, 5), 1);
        Check.due("7: nor makes a mean", middle.look(1, 4), 0);
    }

    private static void allElseIsZero() {
        ClockNet x = Nets.pair(4);
        Check.due("number of an announcement", x.message(0, 3), 0);
        Check.due("time of an announcement", x.stamp(0, false), 0);
        Nets.ticks(x, 2);
        Check.due("time of a request", x.stamp(2, false), 0);
        for (int i = 0; i < 3; i++) {
            Check.due("hops of message " + i, x.message(i, 4), 0);
            Check.due("correction of message " + i, x.stamp(i, true), 0);
        }
        ClockNet y = Nets.star(13);
        int a = Nets.find(y, Nets.ANSWER, 0);
        Check.due("hops of an answer, though its request had one", y.message(a, 4), 0);
    }

    /** At tick 4 sixty are on links; of those, three come to the transparent clock 0, which has two other links. */
    private static ClockNet fullBeforeThreeCome() {
        ClockNet x = new ClockNet();
        x.clock(2, 0, 0, 0);
        x.clock(1, 10, 6, 0);
        x.clock(1, 20, 6, 0);
        x.link(1, 0, 1, 1);
        x.link(2, 0, 5, 5);
        x.link(0, 2, 5, 5);
        for (int l = 3; l < 10; l++) {
            x.link(1, 2, 5, 5);
        }
        Nets.ticks(x, 4);
        Check.due("4: full", x.count(0), 60);
        return x;
    }

    private static void eachOffItsLinkFirst() {
        ClockNet x = fullBeforeThreeCome();
        int lost = x.count(1);
        Check.due("5: three come", x.tick(), 3);
        Check.due("5: each leaves room for one of its two", x.count(0), 60);
        Check.due("5: the second of each is lost", x.count(1), lost + 3);
        for (int i = 57; i < 60; i++) {
            Check.due("5: over the lower link", x.message(i, 5), 1);
        }
    }

    private static void behindAllOthers() {
        ClockNet x = fullBeforeThreeCome();
        int last = x.message(59, 1);
        x.tick();
        Check.due("5: the last of those before", x.message(56, 1), last);
        Check.due("5: not sent on", x.message(56, 4), 0);
        Check.due("5: the first sent on", x.message(57, 4), 1);
        Check.due("5: in the order in which they came", x.message(57, 0), Nets.ANNOUNCE);
        Check.due("5: in the order in which they came", x.message(58, 0), Nets.SYNC);
        Check.due("5: in the order in which they came", x.message(59, 0), Nets.FOLLOW);
        ClockNet y = Nets.pair(7);
        Check.due("7: an answer alone", y.count(0), 1);
        y.tick();
        Check.due("8: what masters send later", y.message(0, 0), Nets.ANNOUNCE);
    }
}
