/** Nets that several tests begin with, and what they do to messages on links. */
final class Nets {
    static final int ANNOUNCE = 0;
    static final int SYNC = 1;
    static final int FOLLOW = 2;
    static final int REQUEST = 3;
    static final int ANSWER = 4;

    private Nets() {
    }

    static ClockNet ticks(ClockNet x, int n) {
        for (int i = 0; i < n; i++) {
            x.tick();
        }
        return x;
    }

    private static ClockNet two(int there, int back, int ticks) {
        ClockNet x = new ClockNet();
        x.clock(0, 10, 6, 0);
        x.clock(0, 20, 6, 0);
        x.link(0, 1, there, back);
        return ticks(x, ticks);
    }

    /** Clock 1 hears clock 0 at tick 5, asks at tick 6, and has a mean of 1000 from tick 8 on; there is no error. */
    static ClockNet pair(int ticks) {
        return two(1, 1, ticks);
    }

    /** A sync comes 3 ticks late, a request 1 tick late: at tick 14 the mean becomes 2000, at 15 the error is 1000. */
    static ClockNet uneven(int ticks) {
        return two(3, 1, ticks);
    }

    /** Ordinary clocks 0, 2 and 3 round the transparent clock 1: what one sends comes to the others 3 ticks later. */
    static ClockNet star(int ticks) {
        ClockNet x = new ClockNet();
        x.clock(0, 10, 6, 0);
        x.clock(2, 0, 0, 0);
        x.clock(0, 20, 6, 0);
        x.clock(0, 30, 6, 0);
        x.link(0, 1, 1, 1);
        x.link(1, 2, 1, 1);
        x.link(1, 3, 1, 1);
        return ticks(x, ticks);
    }

    /** Two ordinary clocks with so many transparent ones between them. */
    static ClockNet chain(int transparent) {
        ClockNet x = new ClockNet();
        x.clock(0, 10, 6, 0);
        for (int i = 0; i < transparent; i++) {
            x.clock(2, 0, 0, 0);
        }
        x.clock(0, 20, 6, 0);
        for (int l = 0; l <= transparent; l++) {
            x.link(l, l + 1, 1, 1);
        }
        return x;
    }

    /** What clock 0 sends comes to clock 2 over the transparent clock 1 twice: 3 ticks later, and 6 later by link 1. */
    static ClockNet twoWays(int ticks) {
        ClockNet x = new ClockNet();
        x.clock(1, 10, 6, 0);
        x.clock(2, 0, 0, 0);
        x.clock(0, 20, 6, 0);
        x.link(0, 1, 1, 1);
        x.link(0, 1, 4, 1);
        x.link(1, 2, 1, 1);
        return ticks(x, ticks);
    }

    /** So many boundary clocks in a row, the first the best. */
    static ClockNet row(int clocks, int ticks) {
        ClockNet x = new ClockNet();
        for (int c = 0; c < clocks; c++) {
            x.clock(1, 10 * (c + 1), 6, 0);
        }
        for (int l = 0; l < clocks - 1; l++) {
            x.link(l, l + 1, 1, 1);
        }
        return ticks(x, ticks);
    }

    /** Two boundary clocks with so many links, all with the same delays. */
    static ClockNet cable(int links, int there, int back) {
        ClockNet x = new ClockNet();
        x.clock(1, 10, 6, 0);
        x.clock(1, 20, 6, 0);
        for (int l = 0; l < links; l++) {
            x.link(0, 1, there, back);
        }
        return x;
    }

    /** The place of the first message on links with this type and sender, or -1. */
    static int find(ClockNet x, int type, int sender) {
        for (int i = 0; i < x.count(0); i++) {
            if (x.message(i, 0) == type && x.message(i, 1) == sender) {
                return i;
            }
        }
        return -1;
    }

    /** Loses the first message on links with this type and sender, which must be there. */
    static void loseOne(ClockNet x, int type, int sender) {
        int i = find(x, type, sender);
        if (i < 0) {
            Check.tell("no message of type " + type + " from " + sender + " is on links");
        } else {
            x.lose(i);
        }
    }

    static void loseNumbered(ClockNet x, int type, int number) {
        for (int i = 0; i < x.count(0); i++) {
            if (x.message(i, 0) == type && x.message(i, 3) == number) {
                x.lose(i);
                return;
            }
        }
        Check.tell("no message of type " + type + " with number " + number + " is on links");
    }

    static void loseOn(ClockNet x, int type, int number, int link) {
        for (int i = 0; i < x.count(0); i++) {
            if (x.message(i, 0) == type && x.message(i, 3) == number && x.message(i, 5) == link) {
                x.lose(i);
                return;
            }
        }
        Check.tell("no message of type " + type + " with number " + number + " is on link " + link);
    }

    /** Loses all messages of a type but those with this number. */
    static void loseAllBut(ClockNet x, int type, int number) {
        for (int i = x.count(0) - 1; i >= 0; i--) {
            if (x.message(i, 0) == type && x.message(i, 3) != number) {
                x.lose(i);
            }
        }
    }
}
