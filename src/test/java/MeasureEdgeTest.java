/** The sentences of 'Terms' on what a slave measures and how it is steered: each has its test. */
public final class MeasureEdgeTest {
    private MeasureEdgeTest() {
    }

    public static void main(String[] args) {
        Check.sentence("the number, time and correction of the latest sync that it took, which may be OPEN",
                MeasureEdgeTest::latestSync);
        Check.sentence("and the latest LAG, if there is one", MeasureEdgeTest::latestLag);
        Check.sentence("LAG is the reading kept - its TIME - the correction kept - its own",
                MeasureEdgeTest::lagLessBothCorrections);
        Check.sentence("then the clock is STEERED, if it has a mean", MeasureEdgeTest::steeredWithAMean);
        Check.sentence("if there is a LAG, BACK is its TIME - SENT - its CORRECTION", MeasureEdgeTest::answerWithALag);
        Check.sentence("and SAMPLE is (float) ((LAG + BACK) / 2), in longs, rest dropped",
                MeasureEdgeTest::restDropped);
        Check.sentence("the mean becomes SAMPLE, if there was none, else mean + (SAMPLE - mean) * 0.25f",
                MeasureEdgeTest::firstMeanAndNext);
        Check.sentence("If E is above 5000 or below -5000: ", MeasureEdgeTest::fiveThousand);
        Check.sentence("the reading becomes reading - (long) E", MeasureEdgeTest::wholePartOfE);
        Check.sentence("the sum 0, ADJUST 0", MeasureEdgeTest::jumpClearsSumAndAdjust);
        Check.sentence("and there is no LAG", MeasureEdgeTest::jumpForgetsTheLag);
        Check.sentence("Otherwise the sum becomes sum + E * 0.0625f, brought to -200 .. 200 (what is less or more"
                + " becomes the nearest)", MeasureEdgeTest::sumBroughtIn);
        Check.sentence("and ADJUST is -(int) (E * 0.25f + sum), ", MeasureEdgeTest::adjustDropsItsRest);
        Check.sentence("brought to -400 .. 400", MeasureEdgeTest::adjustBroughtIn);
        Check.sentence("and no request is open or the open one was sent 64 ticks ago or more",
                MeasureEdgeTest::requestOf64Ticks);
        Check.sentence("SENT is its reading, the request is open", MeasureEdgeTest::sentIsItsReading);
        Check.end("MeasureEdgeTest");
    }

    /** Syncs 22 and 24 come by the fast way at 25 and 27, their follows by the slow way at 28 and 30. */
    private static void latestSync() {
        ClockNet x = Nets.twoWays(22);
        Nets.loseOn(x, Nets.SYNC, 22, 1);
        Nets.loseOn(x, Nets.FOLLOW, 22, 0);
        Nets.ticks(x, 2);
        Nets.loseOn(x, Nets.SYNC, 24, 1);
        Nets.loseOn(x, Nets.FOLLOW, 24, 0);
        Nets.ticks(x, 2);
        Nets.loseOn(x, Nets.SYNC, 26, 0);
        Nets.loseOn(x, Nets.FOLLOW, 26, 0);
        x.tick();
        float sum = x.sum(2);
        x.tick();
        Check.dueFloat("28: follow 22 is not of the latest", x.sum(2), sum);
        x.tick();
        Check.dueFloat("29: nothing comes", x.sum(2), sum);
        x.tick();
        Check.holds("30: follow 24 is of the latest", x.sum(2) != sum);
        announcementsLeaveTheSyncOpen();
    }

    /** Between sync 22 and its follow two announcements come, at 26 by the slow way and at 27 by the fast one. */
    private static void announcementsLeaveTheSyncOpen() {
        ClockNet x = Nets.twoWays(22);
        Nets.loseOn(x, Nets.SYNC, 22, 1);
        Nets.loseOn(x, Nets.FOLLOW, 22, 0);
        Nets.loseOn(x, Nets.SYNC, 20, 1);
        Nets.loseOn(x, Nets.FOLLOW, 20, 1);
        Nets.ticks(x, 2);
        Nets.loseOn(x, Nets.SYNC, 24, 0);
        Nets.loseOn(x, Nets.FOLLOW, 24, 0);
        Nets.ticks(x, 3);
        Check.due("27: an announcement came", x.heard(2, 2, 5), 27);
        float sum = x.sum(2);
        x.tick();
        Check.holds("28: follow 22 is of the latest", x.sum(2) != sum);
    }

    private static void latestLag() {
        ClockNet x = Nets.uneven(12);
        x.set(1, 12500);
        Nets.ticks(x, 2);
        // Follow 8 made a lag of 3000, follow 10 one of 3500; BACK is 1000.
        Check.dueFloat("14: mean", x.mean(1), 2250.0f);
    }

    /** With a sync and a follow of different corrections: 1000 over one transparent clock, 2000 over two. */
    private static void lagLessBothCorrections() {
        ClockNet x = new ClockNet();
        x.clock(1, 10, 6, 0);
        x.clock(2, 0, 0, 0);
        x.clock(2, 0, 0, 0);
        x.clock(0, 20, 6, 0);
        x.link(0, 1, 1, 1);
        x.link(1, 3, 1, 1);
        x.link(0, 2, 1, 1);
        x.link(2, 1, 1, 1);
        // What clock 0 sends comes to clock 3 twice: 3 ticks later with one hop, 5 ticks later with two.
        Nets.ticks(x, 10);
        Check.due("10: request open", x.look(3, 5), 1);
        for (int t = 10; t < 16; t++) {
            loseWithHops(x, Nets.FOLLOW, 1);
            loseWithHops(x, Nets.SYNC, 2);
            x.tick();
        }
        // Sync 10 came at 13 with 1000, its follow at 15 with 2000: LAG 13000 - 10000 - 3000. The request had one hop
        // and came at 13; the answer comes at 16 with 2000: BACK 13000 - 10000 - 2000.
        Check.dueFloat("16: mean of LAG 0 and BACK 1000", x.mean(3), 500.0f);
    }

    private static void loseWithHops(ClockNet x, int type, int hops) {
        for (int i = x.count(0) - 1; i >= 0; i--) {
            if (x.message(i, 0) == type && x.message(i, 4) == hops && x.message(i, 6) == 3) {
                x.lose(i);
            }
        }
    }

    private static void steeredWithAMean() {
        ClockNet x = Nets.pair(6);
        x.set(1, 900000);
        x.tick();
        Check.due("7: a lag but no mean: reading", x.reading(1), 901000);
        Check.due("7: ADJUST", x.look(1, 3), 0);
        Check.dueFloat("7: sum", x.sum(1), 0.0f);
        ClockNet y = Nets.pair(8);
        y.set(1, 900000);
        y.tick();
        Check.due("9: with a mean: reading", y.reading(1), 9000);
    }

    private static void answerWithALag() {
        ClockNet x = Nets.pair(8);
        Check.dueFloat("8: with a lag", x.mean(1), 1000.0f);
        ClockNet y = Nets.pair(6);
        Nets.loseOne(y, Nets.FOLLOW, 0);
        Nets.ticks(y, 2);
        Check.due("8: without a lag the request is closed", y.look(1, 5), 0);
        Check.due("8: but there is no mean", y.look(1, 4), 0);
        Check.dueFloat("8: and mean() is 0", y.mean(1), 0.0f);
        Nets.ticks(y, 4);
        Check.dueFloat("12: the next answer", y.mean(1), 1000.0f);
    }

    /** SENT is 6000 and BACK 1000; the reading that is set makes the lag of sync 6 this one. */
    private static ClockNet withLag(long lag) {
        ClockNet x = Nets.pair(6);
        x.set(1, 6000 + lag - 1000);
        Nets.ticks(x, 2);
        return x;
    }

    private static void restDropped() {
        Check.dueFloat("1000 + 1000", withLag(1000).mean(1), 1000.0f);
        Check.dueFloat("1001 + 1000", withLag(1001).mean(1), 1000.0f);
        Check.dueFloat("1002 + 1000", withLag(1002).mean(1), 1001.0f);
        Check.dueFloat("-1000 + 1000", withLag(-1000).mean(1), 0.0f);
        Check.due("a mean of 0 is a mean", withLag(-1000).look(1, 4), 1);
        Check.dueFloat("-1001 + 1000", withLag(-1001).mean(1), 0.0f);
        Check.dueFloat("-1002 + 1000", withLag(-1002).mean(1), -1.0f);
        Check.dueFloat("-1003 + 1000", withLag(-1003).mean(1), -1.0f);
        // As floats 16777219 would be 16777220.
        Check.dueFloat("16777219 + 1000", withLag(16777219).mean(1), 8389109.0f);
        Check.dueFloat("beyond an int", withLag(900000000000L).mean(1), 450000000500.0f);
    }

    /** At tick 12 the second sample is 1002: mean 1000.5, sum 0.25, ADJUST -1. */
    private static ClockNet secondSample() {
        ClockNet x = Nets.pair(10);
        x.set(1, 10004);
        return Nets.ticks(x, 2);
    }

    private static void firstMeanAndNext() {
        Check.dueFloat("the first", Nets.pair(8).mean(1), 1000.0f);
        ClockNet x = secondSample();
        Check.dueFloat("the second", x.mean(1), 1000.5f);
        Check.dueFloat("sum", x.sum(1), 0.25f);
        Check.due("ADJUST", x.look(1, 3), -1);
        ClockNet zero = withLag(-1000);
        Check.dueFloat("a mean of 0", zero.mean(1), 0.0f);
        zero.set(1, 8000);
        Nets.ticks(zero, 2);
        Check.due("10: SENT is", zero.reading(1), 9688);
        zero.tick();
        Check.due("11: what the lag is made of", zero.reading(1), 10376);
        zero.tick();
        // LAG is 376, BACK is 11000 - 9688.
        Check.dueFloat("12: a quarter of the sample 844", zero.mean(1), 211.0f);
    }

    /** At tick 11, with a mean of 1000 and ADJUST 0 before, the clock has been steered by this error. */
    private static ClockNet steeredBy(long error) {
        ClockNet x = Nets.pair(10);
        x.set(1, 10000 + error);
        x.tick();
        return x;
    }

    /** The same with a mean of 1000.5: the error is this one and a half. */
    private static ClockNet steeredByHalves(long error) {
        ClockNet x = secondSample();
        x.set(1, 12002 + error);
        x.tick();
        return x;
    }

    private static void leans(String error, ClockNet x, long reading) {
        Check.due(error + " leans: reading", x.reading(1), reading);
        Check.due(error + " leans: ADJUST", x.look(1, 3) != 0 ? 1 : 0, 1);
    }

    private static void jumps(String error, ClockNet x, long reading) {
        Check.due(error + " jumps: reading", x.reading(1), reading);
        Check.due(error + " jumps: ADJUST", x.look(1, 3), 0);
    }

    private static void fiveThousand() {
        leans("4999", steeredBy(4999), 15999);
        leans("5000", steeredBy(5000), 16000);
        jumps("5001", steeredBy(5001), 11000);
        leans("-4999", steeredBy(-4999), 6001);
        leans("-5000", steeredBy(-5000), 6000);
        jumps("-5001", steeredBy(-5001), 11000);
        leans("4999.5", steeredByHalves(4999), 12002 + 4999 + 999);
        jumps("5000.5", steeredByHalves(5000), 12002 + 999);
        leans("-4999.5", steeredByHalves(-5000), 12002 - 5000 + 999);
        jumps("-5000.5", steeredByHalves(-5001), 12002 - 5001 + 999 + 5000);
    }

    private static void wholePartOfE() {
        jumps("7000.5", steeredByHalves(7000), 12002 + 999);
        jumps("-7000.5", steeredByHalves(-7001), 12002 - 7001 + 999 + 7000);
        // Floats of that size are 65536 apart: the lag 900000001000 becomes 899999989760, and so does the error.
        ClockNet x = steeredBy(900000000000L);
        Check.due("rounded as a float", x.reading(1), 900000011000L - 899999989760L);
    }

    private static void jumpClearsSumAndAdjust() {
        ClockNet x = steeredBy(2000);
        Check.dueFloat("before: sum", x.sum(1), 125.0f);
        Check.due("before: ADJUST", x.look(1, 3), -400);
        x.tick();
        x.set(1, 90000);
        x.tick();
        Check.dueFloat("sum", x.sum(1), 0.0f);
        Check.due("ADJUST", x.look(1, 3), 0);
        Check.due("the mean stays", x.look(1, 4), 1);
    }

    private static void jumpForgetsTheLag() {
        ClockNet x = steeredBy(10000);
        Check.due("11: it jumped", x.reading(1), 11000);
        x.tick();
        Check.due("12: the answer came", x.look(1, 5), 0);
        Check.dueFloat("12: there is no sample", x.mean(1), 1000.0f);
        ClockNet y = steeredBy(4000);
        y.tick();
        Check.dueFloat("12: without a jump there is one", y.mean(1), 1500.0f);
    }

    private static void sumBroughtIn() {
        Check.dueFloat("199.75", steeredBy(3196).sum(1), 199.75f);
        Check.dueFloat("200", steeredBy(3200).sum(1), 200.0f);
        Check.dueFloat("200.25", steeredBy(3204).sum(1), 200.0f);
        Check.dueFloat("312.5", steeredBy(5000).sum(1), 200.0f);
        Check.dueFloat("-199.75", steeredBy(-3196).sum(1), -199.75f);
        Check.dueFloat("-200", steeredBy(-3200).sum(1), -200.0f);
        Check.dueFloat("-200.25", steeredBy(-3204).sum(1), -200.0f);
        Check.dueFloat("-312.5", steeredBy(-5000).sum(1), -200.0f);
        // At tick 12 the sum is 200, the mean 1500 and ADJUST -400: the error at 13 will be the reading - 12900.
        ClockNet x = Nets.ticks(steeredBy(4000), 1);
        x.set(1, 12900 + 160);
        x.tick();
        Check.dueFloat("200 and 10 more", x.sum(1), 200.0f);
        Check.due("the sum that was brought in makes ADJUST", x.look(1, 3), -(40 + 200));
        ClockNet y = Nets.ticks(steeredBy(4000), 1);
        y.set(1, 12900 - 160);
        y.tick();
        Check.dueFloat("200 and 10 less", y.sum(1), 190.0f);
        Check.due("ADJUST", y.look(1, 3), -(-40 + 190));
    }

    private static void adjustDropsItsRest() {
        int[] errors = {0, 3, 4, 6, 7, -3, -4, -6, -7};
        int[] due = {0, 0, -1, -1, -2, 0, 1, 1, 2};
        for (int i = 0; i < errors.length; i++) {
            // With its part of the sum 3 makes 0.9375 and 4 makes 1.25.
            Check.due("ADJUST by an error of " + errors[i], steeredBy(errors[i]).look(1, 3), due[i]);
        }
    }

    private static void adjustBroughtIn() {
        Check.due("399.6875", steeredBy(1279).look(1, 3), -399);
        Check.due("400", steeredBy(1280).look(1, 3), -400);
        Check.due("401.25", steeredBy(1284).look(1, 3), -400);
        Check.due("1450", steeredBy(5000).look(1, 3), -400);
        Check.due("-399.6875", steeredBy(-1279).look(1, 3), 399);
        Check.due("-400", steeredBy(-1280).look(1, 3), 400);
        Check.due("-401.25", steeredBy(-1284).look(1, 3), 400);
        Check.due("-1450", steeredBy(-5000).look(1, 3), 400);
    }

    private static void requestOf64Ticks() {
        ClockNet x = Nets.pair(6);
        Nets.loseOne(x, Nets.REQUEST, 1);
        Nets.ticks(x, 4);
        Check.due("10: 4 ticks ago", Nets.find(x, Nets.REQUEST, 1), -1);
        Nets.ticks(x, 56);
        Check.due("66: 60 ticks ago", Nets.find(x, Nets.REQUEST, 1), -1);
        Check.due("66: it is open", x.look(1, 5), 1);
        Nets.ticks(x, 3);
        Check.due("69: 63 ticks ago", Nets.find(x, Nets.REQUEST, 1), -1);
        x.tick();
        Check.due("70: 64 ticks ago", x.message(Nets.find(x, Nets.REQUEST, 1), 3), 70);
        Check.due("70: it is open", x.look(1, 5), 1);
        Nets.loseOne(x, Nets.REQUEST, 1);
        Nets.ticks(x, 60);
        Check.due("130: the latest was sent 60 ticks ago", Nets.find(x, Nets.REQUEST, 1), -1);
        Nets.ticks(x, 4);
        Check.due("134: 64 ticks ago", x.message(Nets.find(x, Nets.REQUEST, 1), 3), 134);
        Nets.ticks(x, 2);
        Check.dueFloat("136: it is answered", x.mean(1), 1000.0f);
        Nets.ticks(x, 2);
        Check.due("138: none was open", x.message(Nets.find(x, Nets.REQUEST, 1), 3), 138);
    }

    private static void sentIsItsReading() {
        ClockNet x = Nets.pair(5);
        x.set(1, 5500);
        x.tick();
        Check.due("6: SENT is", x.reading(1), 6500);
        x.set(1, 6000);
        Nets.ticks(x, 2);
        // LAG is 1000, BACK is 7000 - 6500.
        Check.dueFloat("8: mean", x.mean(1), 750.0f);
        // The request finds no room, but it is open.
        ClockNet full = fullAtSix();
        Check.due("6: no room", full.count(0), 60);
        Check.due("6: no request is on links", Nets.find(full, Nets.REQUEST, 1), -1);
        Check.due("6: it is open", full.look(1, 5), 1);
    }

    /** Clock 1 is a slave on link 0 at tick 5; nine slow links are full of what both send. */
    private static ClockNet fullAtSix() {
        ClockNet x = new ClockNet();
        x.clock(1, 10, 6, 0);
        x.clock(1, 20, 6, 0);
        x.link(0, 1, 1, 1);
        for (int l = 1; l < 10; l++) {
            x.link(0, 1, 5, 5);
        }
        return Nets.ticks(x, 6);
    }
}
