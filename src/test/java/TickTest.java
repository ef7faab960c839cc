/** Promise 9: what happens in a tick, and in which order. */
public final class TickTest {
    private TickTest() {
    }

    public static void main(String[] args) {
        mastersSendInOrder();
        slaveMeasuresAndSteers();
        errorOfFiveThousandLeans();
        errorAboveFiveThousandJumps();
        partsOfOneCount();
        sumIsBroughtIn();
        jumpForgetsTheLag();
        followNeedsItsSync();
        anotherPortForgetsTheSync();
        aSyncIsFollowedOnce();
        powerForgetsTheLag();
        answerNeedsALag();
        sampleDropsItsRest();
        lostRequestIsRepeated();
        oldAnswerIsNotTaken();
        heardGradeGrowsOld();
        gradesAreCompared();
        sameSenderReplacesItsGrade();
        worseStrangerIsNotHeard();
        syncOfAStrangerIsNotTaken();
        onlyTheReceiverAnswersAsMaster();
        answerToAnotherIsNotTaken();
        anotherThatSaysSoForgets();
        ownClockComesBack();
        sixStepsAreTooMany();
        equalGradesLowestLink();
        triangleHasAPassivePort();
        boundaryClockPassesOn();
        transparentClockAddsWhatItHeld();
        transparentClockSendsOverEachOther();
        fourHopsAreTheMost();
        sixtyMessagesAreTheMost();
        comingMessagesMakeRoom();
        downLinkLosesWhatIsPassedOn();
        Check.end("TickTest");
    }

    private static void isMessage(ClockNet x, int i, int type, int sender, int number, long time) {
        String name = "message " + i;
        Check.due(name + " type", x.message(i, 0), type);
        Check.due(name + " sender", x.message(i, 1), sender);
        Check.due(name + " receiver", x.message(i, 2), 9);
        Check.due(name + " number", x.message(i, 3), number);
        Check.due(name + " time", x.stamp(i, false), time);
        Check.due(name + " correction", x.stamp(i, true), 0);
    }

    private static void mastersSendInOrder() {
        ClockNet x = new ClockNet();
        x.clock(1, 10, 6, 1);
        x.clock(1, 10, 6, 2);
        x.link(1, 0, 5, 5);
        x.link(0, 1, 5, 5);
        x.tick();
        Check.due("masters after the first tick", x.port(0, 0), 1);
        Check.due("nothing is sent at tick 1", x.count(0), 0);
        x.tick();
        Check.due("syncs and follows at tick 2", x.count(0), 8);
        isMessage(x, 0, Nets.SYNC, 0, 2, 0);
        isMessage(x, 1, Nets.FOLLOW, 0, 2, 2002);
        isMessage(x, 3, Nets.FOLLOW, 0, 2, 2002);
        Check.due("by link", x.message(0, 5), 0);
        Check.due("by link", x.message(2, 5), 1);
        isMessage(x, 4, Nets.SYNC, 1, 2, 0);
        isMessage(x, 5, Nets.FOLLOW, 1, 2, 2004);
        x.tick();
        Check.due("nothing is sent at tick 3", x.count(0), 8);
        x.tick();
        Check.due("announces at tick 4", x.count(0), 20);
        isMessage(x, 8, Nets.ANNOUNCE, 0, 0, 0);
        isMessage(x, 9, Nets.SYNC, 0, 4, 0);
        isMessage(x, 10, Nets.FOLLOW, 0, 4, 4004);
        isMessage(x, 17, Nets.ANNOUNCE, 1, 0, 0);
        isMessage(x, 19, Nets.FOLLOW, 1, 4, 4008);
    }

    private static void slaveMeasuresAndSteers() {
        ClockNet x = Nets.uneven(6);
        Check.due("6: still a master", x.port(1, 0), 1);
        x.tick();
        Check.due("7: slave by the announcement", x.port(1, 0), 2);
        Nets.ticks(x, 2);
        Check.due("9: no request yet", x.look(1, 5), 0);
        x.tick();
        Check.due("10: request open", x.look(1, 5), 1);
        int r = Nets.find(x, Nets.REQUEST, 1);
        Check.due("10: receiver of the request", x.message(r, 2), 0);
        Check.due("10: number of the request", x.message(r, 3), 10);
        Check.due("10: time of the request", x.stamp(r, false), 0);
        x.tick();
        int a = Nets.find(x, Nets.ANSWER, 0);
        Check.due("11: receiver of the answer", x.message(a, 2), 1);
        Check.due("11: number of the answer", x.message(a, 3), 10);
        Check.due("11: time of the answer", x.stamp(a, false), 11000);
        Check.due("11: it stands before what masters send", x.message(a, 7), 14);
        Nets.ticks(x, 2);
        Check.due("13: no mean yet", x.look(1, 4), 0);
        x.tick();
        Check.dueFloat("14: mean", x.mean(1), 2000.0f);
        Check.due("14: next request", x.look(1, 5), 1);
        Check.due("14: not steered", x.look(1, 3), 0);
        x.tick();
        Check.dueFloat("15: sum", x.sum(1), 62.5f);
        Check.due("15: adjust", x.look(1, 3), -312);
        Check.due("15: reading", x.reading(1), 15000);
        x.tick();
        Check.due("16: reading", x.reading(1), 15688);
        x.tick();
        Check.due("17: reading", x.reading(1), 16376);
        Check.dueFloat("17: sum", x.sum(1), 86.0f);
        Check.due("17: adjust", x.look(1, 3), -180);
        x.tick();
        Check.dueFloat("18: mean", x.mean(1), 1922.0f);
        Check.due("18: reading", x.reading(1), 17196);
    }

    private static void errorOfFiveThousandLeans() {
        ClockNet x = Nets.uneven(14);
        x.set(1, 18000);
        x.tick();
        Check.due("5000: reading", x.reading(1), 19000);
        Check.dueFloat("5000: sum brought in", x.sum(1), 200.0f);
        Check.due("5000: adjust brought in", x.look(1, 3), -400);
        ClockNet y = Nets.uneven(14);
        y.set(1, 8000);
        y.tick();
        Check.due("-5000: reading", y.reading(1), 9000);
        Check.dueFloat("-5000: sum brought in", y.sum(1), -200.0f);
        Check.due("-5000: adjust brought in", y.look(1, 3), 400);
    }

    private static void errorAboveFiveThousandJumps() {
        ClockNet x = Nets.uneven(14);
        x.set(1, 18001);
        x.tick();
        Check.due("5001: reading", x.reading(1), 14000);
        Check.dueFloat("5001: sum", x.sum(1), 0.0f);
        Check.due("5001: adjust", x.look(1, 3), 0);
        Check.dueFloat("5001: mean stays", x.mean(1), 2000.0f);
        ClockNet y = Nets.uneven(14);
        y.set(1, 7999);
        y.tick();
        Check.due("-5001: reading", y.reading(1), 14000);
        Check.due("-5001: adjust", y.look(1, 3), 0);
        ClockNet z = Nets.uneven(16);
        z.set(1, 80000);
        z.tick();
        Check.dueFloat("a jump after steering: sum", z.sum(1), 0.0f);
        Check.due("a jump after steering: adjust", z.look(1, 3), 0);
    }

    /** A mean with a fraction, made by the reading after tick 16, and then an error just beyond 5000. */
    private static void partsOfOneCount() {
        ClockNet x = Nets.uneven(16);
        x.set(1, 16310);
        Nets.ticks(x, 2);
        Check.dueFloat("18: mean", x.mean(1), 1999.75f);
        Check.dueFloat("18: sum", x.sum(1), 124.875f);
        Check.due("18: adjust", x.look(1, 3), -374);
        x.set(1, 22374);
        x.tick();
        Check.due("5000.25: its whole part is taken", x.reading(1), 18000);
        Check.dueFloat("5000.25: sum", x.sum(1), 0.0f);
        ClockNet y = Nets.uneven(16);
        y.set(1, 16314);
        Nets.ticks(y, 2);
        Check.dueFloat("18: mean", y.mean(1), 2000.25f);
        Check.due("18: adjust", y.look(1, 3), -375);
        y.set(1, 12375);
        y.tick();
        Check.due("-5000.25: its whole part is taken", y.reading(1), 18000);
        Check.dueFloat("-5000.25: sum", y.sum(1), 0.0f);
    }

    private static void sumIsBroughtIn() {
        ClockNet x = Nets.uneven(16);
        x.set(1, 17516);
        x.tick();
        Check.dueFloat("200.25 is brought in", x.sum(1), 200.0f);
        ClockNet y = Nets.uneven(16);
        y.set(1, 11108);
        y.tick();
        Check.dueFloat("-200.25 is brought in", y.sum(1), -200.0f);
        ClockNet z = Nets.uneven(16);
        z.set(1, 17508);
        z.tick();
        Check.dueFloat("199.75 is not", z.sum(1), 199.75f);
    }

    private static void jumpForgetsTheLag() {
        ClockNet x = Nets.uneven(14);
        x.set(1, 18001);
        x.tick();
        Nets.loseNumbered(x, Nets.FOLLOW, 14);
        Nets.ticks(x, 2);
        Check.due("17: the answer is on its way", x.look(1, 5), 1);
        Nets.loseNumbered(x, Nets.FOLLOW, 16);
        Check.due("17: what comes next", x.message(0, 7), 18);
        x.tick();
        Check.dueFloat("18: no sample without a lag", x.mean(1), 2000.0f);
    }

    private static void followNeedsItsSync() {
        ClockNet x = Nets.uneven(12);
        Nets.loseOne(x, Nets.SYNC, 0);
        Nets.loseOne(x, Nets.SYNC, 0);
        Nets.ticks(x, 2);
        Check.dueFloat("14: mean by the lag of sync 8", x.mean(1), 2000.0f);
        x.tick();
        Check.due("15: a follow without its sync does not steer", x.look(1, 3), 0);
        Nets.ticks(x, 2);
        Check.due("17: the next pair does", x.look(1, 3), -312);
        ClockNet y = Nets.uneven(12);
        Nets.loseNumbered(y, Nets.FOLLOW, 10);
        Nets.loseNumbered(y, Nets.SYNC, 12);
        Nets.ticks(y, 3);
        Check.dueFloat("15: has a mean", y.mean(1), 2000.0f);
        Check.due("15: a follow of another number does not steer", y.look(1, 3), 0);
    }

    /** Clock 1 keeps sync 14 open when its slave port changes: the follow that comes over the other link finds none. */
    private static void anotherPortForgetsTheSync() {
        ClockNet x = new ClockNet();
        x.clock(1, 10, 6, 0);
        x.clock(1, 20, 6, 0);
        x.link(0, 1, 1, 1);
        x.link(0, 1, 5, 1);
        Nets.ticks(x, 14);
        Nets.loseOn(x, Nets.FOLLOW, 14, 0);
        Nets.loseOn(x, Nets.SYNC, 14, 1);
        Nets.loseOn(x, Nets.SYNC, 12, 1);
        Nets.loseOn(x, Nets.FOLLOW, 12, 1);
        x.tick();
        Check.due("15: slave", x.look(1, 2), 0);
        x.join(0, false);
        x.tick();
        Check.due("16: slave", x.look(1, 2), 1);
        Nets.loseOn(x, Nets.FOLLOW, 16, 1);
        Nets.ticks(x, 2);
        Check.due("18: request open", x.look(1, 5), 1);
        Nets.loseOn(x, Nets.FOLLOW, 18, 1);
        Nets.ticks(x, 6);
        Check.due("24: it was answered", x.look(1, 5), 0);
        Check.due("24: but there was no lag", x.look(1, 4), 0);
    }

    /** Clock 2 hears each sync of clock 0 twice, since clock 0 has two links to the transparent clock. */
    private static void aSyncIsFollowedOnce() {
        ClockNet x = new ClockNet();
        x.clock(1, 10, 6, 0);
        x.clock(2, 0, 0, 0);
        x.clock(0, 20, 6, 0);
        x.link(0, 1, 1, 1);
        x.link(0, 1, 3, 1);
        x.link(1, 2, 1, 1);
        Nets.ticks(x, 22);
        Nets.loseOn(x, Nets.SYNC, 22, 1);
        Nets.ticks(x, 2);
        Nets.loseOn(x, Nets.SYNC, 24, 0);
        x.tick();
        float sum = x.sum(2);
        int adjust = x.look(2, 3);
        Check.due("25: it is steered", adjust != 0 ? 1 : 0, 1);
        Nets.ticks(x, 2);
        Check.dueFloat("27: sum", x.sum(2), sum);
        Check.due("27: adjust", x.look(2, 3), adjust);
    }

    private static void powerForgetsTheLag() {
        ClockNet x = Nets.uneven(15);
        x.power(1, false);
        x.power(1, true);
        for (int t = 16; t <= 26; t++) {
            while (Nets.find(x, Nets.FOLLOW, 0) >= 0) {
                Nets.loseOne(x, Nets.FOLLOW, 0);
            }
            Check.due(t + ": no mean", x.look(1, 4), 0);
            x.tick();
        }
        Check.due("26: the answer to 22 came", x.message(Nets.find(x, Nets.REQUEST, 1), 3), 26);
        Check.due("26: no mean without a lag", x.look(1, 4), 0);
    }

    private static void answerNeedsALag() {
        ClockNet x = Nets.uneven(8);
        while (Nets.find(x, Nets.FOLLOW, 0) >= 0) {
            Nets.loseOne(x, Nets.FOLLOW, 0);
        }
        Nets.ticks(x, 2);
        Nets.loseOne(x, Nets.FOLLOW, 0);
        Nets.ticks(x, 2);
        Nets.loseOne(x, Nets.FOLLOW, 0);
        x.tick();
        Check.due("13: request open", x.look(1, 5), 1);
        x.tick();
        Check.due("14: the answer came", Nets.find(x, Nets.REQUEST, 1) >= 0 ? 1 : 0, 1);
        Check.due("14: no mean without a lag", x.look(1, 4), 0);
    }

    private static void sampleDropsItsRest() {
        ClockNet x = Nets.uneven(9);
        x.set(1, 8999);
        x.tick();
        Nets.ticks(x, 4);
        // The answer's time was 11000 and the request's 9999: BACK 1001; sync 10 has lag 12999 - 10000: 2999.
        Check.dueFloat("even sum", x.mean(1), 2000.0f);
        ClockNet y = Nets.uneven(12);
        y.set(1, 11999);
        Nets.ticks(y, 2);
        // Here the request's time was 10000: BACK 1000; 2999 + 1000 is odd.
        Check.dueFloat("rest dropped", y.mean(1), 1999.0f);
        ClockNet z = Nets.uneven(12);
        z.set(1, 7999);
        Nets.ticks(z, 2);
        Check.dueFloat("rest dropped toward 0", z.mean(1), 0.0f);
        Check.due("which is a mean", z.look(1, 4), 1);
    }

    private static void lostRequestIsRepeated() {
        ClockNet x = Nets.uneven(10);
        Nets.loseOne(x, Nets.REQUEST, 1);
        Nets.ticks(x, 63);
        Check.due("73: the request is still open", x.look(1, 5), 1);
        Check.due("73: none was sent", Nets.find(x, Nets.REQUEST, 1), -1);
        Check.due("73: no mean", x.look(1, 4), 0);
        x.tick();
        int r = Nets.find(x, Nets.REQUEST, 1);
        Check.due("74: sent again", x.message(r, 3), 74);
        Nets.ticks(x, 4);
        Check.due("78: answered", x.look(1, 4), 1);
    }

    private static void oldAnswerIsNotTaken() {
        ClockNet x = Nets.uneven(11);
        Check.due("an answer is on its way", Nets.find(x, Nets.ANSWER, 0) >= 0 ? 1 : 0, 1);
        x.power(1, false);
        x.power(1, true);
        Nets.ticks(x, 4);
        Check.due("the answer to a forgotten request", x.look(1, 4), 0);
        ClockNet y = Nets.chain(4);
        Nets.ticks(y, 15);
        Check.due("15: request 14 is open", y.look(5, 5), 1);
        y.power(5, false);
        y.power(5, true);
        Nets.ticks(y, 17);
        Check.due("32: the answer to 14 does not close request 18", y.look(5, 5), 1);
        Check.due("32: nor makes a mean", y.look(5, 4), 0);
        Nets.ticks(y, 3);
        Check.due("35: request 18 is open", y.look(5, 5), 1);
        y.tick();
        Check.due("36: it is answered", y.look(5, 5), 0);
        Check.dueFloat("36: mean", y.mean(5), 1000.0f);
    }

    private static void heardGradeGrowsOld() {
        ClockNet x = new ClockNet();
        x.clock(0, 10, 6, 0);
        x.clock(0, 20, 6, 0);
        x.link(0, 1, 1, 1);
        Nets.ticks(x, 5);
        Check.due("heard at", x.heard(1, 0, 5), 5);
        x.power(0, false);
        Nets.ticks(x, 11);
        Check.due("11 ticks old", x.heard(1, 0, 5), 5);
        Check.due("still a slave", x.port(1, 0), 2);
        x.tick();
        Check.due("12 ticks old", x.heard(1, 0, 5), -1);
        Check.due("a master", x.port(1, 0), 1);
        Check.due("best itself", x.look(1, 0), 1);
    }

    private static int bestOf(int priority0, int class0, int priority1, int class1) {
        ClockNet x = new ClockNet();
        x.clock(0, priority0, class0, 0);
        x.clock(0, priority1, class1, 0);
        x.link(0, 1, 1, 1);
        Nets.ticks(x, 5);
        Check.due("both agree", x.look(0, 0), x.look(1, 0));
        return x.look(0, 0);
    }

    private static void gradesAreCompared() {
        Check.due("priority first", bestOf(2, 1, 1, 2), 1);
        Check.due("priority first", bestOf(1, 2, 2, 1), 0);
        Check.due("then class", bestOf(1, 2, 1, 1), 1);
        Check.due("then class", bestOf(1, 1, 1, 2), 0);
        Check.due("then number", bestOf(1, 1, 1, 1), 0);
    }

    private static void sameSenderReplacesItsGrade() {
        ClockNet x = Nets.star(10);
        Check.due("heard priority", x.heard(3, 2, 0), 10);
        x.grade(0, 15, 6, 0);
        Nets.ticks(x, 5);
        Check.due("a worse grade of the same sender", x.heard(3, 2, 0), 15);
        Check.due("heard at", x.heard(3, 2, 5), 15);
    }

    private static void worseStrangerIsNotHeard() {
        ClockNet x = Nets.star(7);
        Check.due("7: the best of those that came", x.heard(3, 2, 2), 0);
        Check.due("7: at clock 0 the better of two", x.heard(0, 0, 2), 2);
        Check.due("7: at clock 2 the better of two", x.heard(2, 1, 2), 0);
        ClockNet y = Nets.star(0);
        y.grade(0, 40, 6, 0);
        y.grade(3, 15, 6, 0);
        Nets.ticks(y, 7);
        Check.due("7: a better stranger that comes behind", y.heard(0, 0, 2), 3);
    }

    private static void syncOfAStrangerIsNotTaken() {
        ClockNet x = Nets.star(12);
        x.grade(3, 1, 1, 0);
        x.set(3, 9000000);
        Nets.ticks(x, 2);
        Check.due("14: clock 3 sends a sync", Nets.find(x, Nets.SYNC, 3) >= 0 ? 1 : 0, 1);
        Nets.ticks(x, 3);
        Check.due("17: clock 2 has a mean", x.look(2, 4), 1);
        Check.due("17: it follows clock 0 still", x.heard(2, 1, 4), 0);
        Check.due("17: and is not steered by clock 3", x.reading(2), 17000);
    }

    private static void onlyTheReceiverAnswersAsMaster() {
        ClockNet x = Nets.star(10);
        x.grade(3, 1, 1, 0);
        Nets.ticks(x, 3);
        Check.due("13: clock 3 is a master", x.port(3, 2), 1);
        Check.due("13: but not the receiver", Nets.find(x, Nets.ANSWER, 3), -1);
        Check.due("13: clock 0 answers", Nets.find(x, Nets.ANSWER, 0) >= 0 ? 1 : 0, 1);
        ClockNet y = Nets.star(10);
        y.grade(0, 255, 255, 0);
        Nets.ticks(y, 3);
        Check.due("13: clock 0 is a slave", y.port(0, 0), 2);
        Check.due("13: and does not answer", Nets.find(y, Nets.ANSWER, 0), -1);
    }

    private static void answerToAnotherIsNotTaken() {
        ClockNet x = Nets.star(15);
        // Both asked at tick 10: with clock 2's answer lost on its last link, only clock 3's comes to it.
        for (int i = 0; i < x.count(0); i++) {
            if (x.message(i, 0) == Nets.ANSWER && x.message(i, 2) == 2 && x.message(i, 6) == 2) {
                x.lose(i);
                break;
            }
        }
        Check.due("15: one is lost", x.count(1), 1);
        x.tick();
        Check.due("16: clock 3 has a mean", x.look(3, 4), 1);
        Check.due("16: clock 2 has none", x.look(2, 4), 0);
        Check.due("16: its request is open", x.look(2, 5), 1);
    }

    private static void anotherThatSaysSoForgets() {
        ClockNet x = Nets.star(18);
        Check.due("18: has a mean", x.look(2, 4), 1);
        Check.due("18: slave", x.look(2, 2), 1);
        x.grade(3, 1, 1, 0);
        Nets.ticks(x, 4);
        Check.due("22: has a mean", x.look(2, 4), 1);
        x.tick();
        Check.due("23: the same port", x.look(2, 2), 1);
        Check.due("23: another that says so", x.heard(2, 1, 4), 3);
        Check.due("23: no mean", x.look(2, 4), 0);
        Check.due("23: no request", x.look(2, 5), 0);
        Check.due("23: best", x.look(2, 0), 3);
    }

    private static void ownClockComesBack() {
        ClockNet x = new ClockNet();
        x.clock(1, 10, 6, 0);
        x.clock(2, 0, 0, 0);
        x.link(0, 1, 1, 1);
        x.link(0, 1, 1, 1);
        Nets.ticks(x, 12);
        Check.due("its own announcement is not heard", x.heard(0, 0, 0), -1);
        Check.due("its own announcement is not heard", x.heard(0, 1, 0), -1);
        Check.due("it leads", x.port(0, 1), 1);
    }

    private static void sixStepsAreTooMany() {
        ClockNet x = new ClockNet();
        for (int c = 0; c < 8; c++) {
            x.clock(1, c, 6, 0);
        }
        for (int l = 0; l < 7; l++) {
            x.link(l, l + 1, 1, 1);
        }
        Nets.ticks(x, 80);
        for (int c = 0; c < 7; c++) {
            Check.due("best of " + c, x.look(c, 0), 0);
            Check.due("steps of " + c, x.look(c, 1), c);
        }
        Check.due("steps heard at 6", x.heard(6, 5, 3), 5);
        Check.due("6 steps are not heard", x.heard(7, 6, 3), -1);
        Check.due("best of 7", x.look(7, 0), 7);
    }

    private static void equalGradesLowestLink() {
        ClockNet x = new ClockNet();
        x.clock(1, 10, 6, 0);
        x.clock(1, 20, 6, 0);
        x.link(0, 1, 2, 1);
        x.link(0, 1, 1, 1);
        Nets.ticks(x, 5);
        Check.due("5: only the faster link has come", x.look(1, 2), 1);
        x.tick();
        Check.due("6: the lowest link of two equal ones", x.look(1, 2), 0);
        Check.due("6: the other is passive", x.port(1, 1), 3);
        Check.due("6: masters at the other end", x.port(0, 1), 1);
    }

    private static void triangleHasAPassivePort() {
        ClockNet x = new ClockNet();
        x.clock(1, 10, 6, 0);
        x.clock(1, 20, 6, 0);
        x.clock(1, 30, 6, 0);
        x.link(0, 1, 1, 1);
        x.link(0, 2, 1, 1);
        x.link(1, 2, 1, 1);
        Nets.ticks(x, 20);
        Check.due("1 follows 0", x.look(1, 2), 0);
        Check.due("2 follows 0", x.look(2, 2), 1);
        // Both are one step away; what 1 says of it is better than what 2 says.
        Check.due("1 is master toward 2", x.port(1, 2), 1);
        Check.due("2 is passive toward 1", x.port(2, 2), 3);
        for (int i = 0; i < x.count(0); i++) {
            boolean passiveSends = x.message(i, 1) == 2 && x.message(i, 5) == 2;
            Check.due("a passive port sends nothing", passiveSends ? 1 : 0, 0);
        }
    }

    private static void boundaryClockPassesOn() {
        ClockNet x = new ClockNet();
        x.clock(0, 10, 6, 0);
        x.clock(1, 20, 7, 0);
        x.clock(0, 30, 8, 0);
        x.link(0, 1, 1, 1);
        x.link(1, 2, 1, 1);
        Nets.ticks(x, 9);
        Check.due("heard priority", x.heard(2, 1, 0), 10);
        Check.due("heard class", x.heard(2, 1, 1), 6);
        Check.due("heard best", x.heard(2, 1, 2), 0);
        Check.due("heard steps", x.heard(2, 1, 3), 1);
        Check.due("heard who says so", x.heard(2, 1, 4), 1);
        Check.due("steps", x.look(2, 1), 2);
        x.set(0, 500000);
        // Clock 2 asked while clock 1 jumped: its mean is far off at first and comes near slowly.
        Nets.ticks(x, 150);
        Check.due("the time is passed on", Math.abs(x.reading(1) - x.reading(0)) < 100 ? 1 : 0, 1);
        Check.due("and on", Math.abs(x.reading(2) - x.reading(0)) < 100 ? 1 : 0, 1);
    }

    private static void transparentClockAddsWhatItHeld() {
        ClockNet x = Nets.star(10);
        Check.due("10: request open", x.look(2, 5), 1);
        x.tick();
        int r = Nets.find(x, Nets.REQUEST, 2);
        Check.due("11: request is passed on", x.message(r, 4), 1);
        Check.due("11: with what it was held", x.stamp(r, true), 1000);
        Check.due("11: to the receiver", x.message(r, 2), 0);
        Check.due("11: one tick later", x.message(r, 7), 13);
        Nets.ticks(x, 2);
        int a = Nets.find(x, Nets.ANSWER, 0);
        Check.due("13: the answer has the correction of the request", x.stamp(a, true), 1000);
        Check.due("13: but not its hops", x.message(a, 4), 0);
        Check.due("13: time of the answer", x.stamp(a, false), 13000);
        Nets.ticks(x, 3);
        // LAG is 3000 - 1000 - 1000, BACK is 3000 - 2000.
        Check.dueFloat("16: mean", x.mean(2), 1000.0f);
        Nets.ticks(x, 4);
        Check.due("20: no error, no adjust", x.look(2, 3), 0);
    }

    private static void transparentClockSendsOverEachOther() {
        ClockNet x = Nets.star(2);
        Check.due("2: syncs and follows", x.count(0), 6);
        Check.due("3: they come", x.tick(), 6);
        Check.due("3: each goes on over two links", x.count(0), 12);
        Check.due("3: of clock 0, by link", x.message(0, 5), 1);
        Check.due("3: of clock 0, by link", x.message(1, 5), 2);
        Check.due("3: type", x.message(1, 0), Nets.SYNC);
        Check.due("3: then the follow", x.message(2, 0), Nets.FOLLOW);
        Check.due("3: of clock 2, not back", x.message(4, 5), 0);
        Check.due("3: of clock 2, not back", x.message(5, 5), 2);
        Check.due("3: time stays", x.stamp(2, false), 2000);
        Check.due("3: number stays", x.message(2, 3), 2);
        Check.due("3: sender stays", x.message(2, 1), 0);
        Check.due("3: nothing is lost", x.count(1), 0);
        ClockNet y = new ClockNet();
        y.clock(2, 0, 0, 0);
        y.clock(0, 0, 0, 0);
        y.link(1, 0, 1, 1);
        Nets.ticks(y, 2);
        Check.due("to a transparent clock without another link", y.tick(), 2);
        Check.due("is not lost", y.count(1), 0);
        Check.due("but gone", y.count(0), 0);
    }

    private static void fourHopsAreTheMost() {
        ClockNet x = Nets.chain(4);
        Nets.ticks(x, 30);
        Check.due("over four transparent clocks", x.look(5, 0), 0);
        Check.due("nothing is lost", x.count(1), 0);
        ClockNet y = Nets.chain(5);
        Nets.ticks(y, 10);
        Check.due("10: nothing is lost yet", y.count(1), 0);
        // What was sent at tick 2 comes to the fifth at 2 + 1 + 4 * 2.
        Check.due("11: it comes all the same", y.tick() >= 4 ? 1 : 0, 1);
        Check.due("11: two of each end are lost", y.count(1), 4);
        Nets.ticks(y, 19);
        Check.due("over five transparent clocks", y.look(6, 0), 6);
    }

    private static void sixtyMessagesAreTheMost() {
        ClockNet x = new ClockNet();
        x.clock(1, 10, 6, 0);
        x.clock(1, 20, 6, 0);
        for (int l = 0; l < 10; l++) {
            x.link(0, 1, 5, 5);
        }
        Nets.ticks(x, 3);
        Check.due("3: on links", x.count(0), 40);
        x.tick();
        Check.due("4: on links", x.count(0), 60);
        Check.due("4: lost", x.count(1), 40);
        Check.due("4: the last one that found room", x.message(59, 1), 0);
        Check.due("4: the last one that found room", x.message(59, 5), 6);
        Check.due("4: the last one that found room", x.message(59, 0), Nets.SYNC);
        Check.due("4: no more", x.message(60, 0), -1);
    }

    private static void comingMessagesMakeRoom() {
        ClockNet x = new ClockNet();
        x.clock(2, 0, 0, 0);
        x.clock(1, 10, 6, 0);
        x.clock(1, 20, 6, 0);
        x.link(1, 0, 1, 1);
        x.link(2, 0, 5, 5);
        x.link(0, 2, 5, 5);
        for (int l = 3; l < 10; l++) {
            x.link(1, 2, 5, 5);
        }
        Nets.ticks(x, 4);
        Check.due("4: full", x.count(0), 60);
        Check.due("4: lost", x.count(1), 27);
        Check.due("5: three come", x.tick(), 3);
        Check.due("5: full again", x.count(0), 60);
        Check.due("5: each found the room that it left, for one of two", x.count(1), 30);
        Check.due("5: the last stands behind all others", x.message(59, 0), Nets.FOLLOW);
        Check.due("5: the last stands behind all others", x.message(59, 4), 1);
        Check.due("5: it went over the first of two links", x.message(59, 5), 1);
    }

    private static void downLinkLosesWhatIsPassedOn() {
        ClockNet x = Nets.star(2);
        x.join(1, false);
        Check.due("those on the link are lost", x.count(1), 2);
        Check.due("the others come", x.tick(), 4);
        Check.due("what would go over it is lost", x.count(1), 6);
        Check.due("the rest is passed on", x.count(0), 4);
    }
}
