import java.util.function.Consumer;
import java.util.function.Supplier;

/** The sentences of the promises, and the last lines of 'Terms', that name an edge of a call: each has its test. */
public final class CallEdgeTest {
    private static final int LEAST = Integer.MIN_VALUE;
    private static final int MOST = Integer.MAX_VALUE;

    private CallEdgeTest() {
    }

    public static void main(String[] args) {
        lastLinesOfTerms();
        promises1To9();
        promises10To19();
        Check.end("CallEdgeTest");
    }

    private static void lastLinesOfTerms() {
        Check.sentence("What throws changes nothing.", CallEdgeTest::whatThrowsChangesNothing);
        Check.sentence("IllegalArgumentException: a number not as said", CallEdgeTest::numbersNotAsSaid);
        Check.sentence("NoSuchElementException: no such clock or link (tested first)", CallEdgeTest::noSuchFirst);
        Check.sentence("IllegalStateException: no room, or it is so already", CallEdgeTest::noRoomOrSoAlready);
        Check.sentence("Of several the one named first in a call's line is thrown", CallEdgeTest::theFirstOfSeveral);
        Check.sentence("a wrong what is tested before an answer of -1", CallEdgeTest::wrongWhatBeforeNone);
    }

    private static void promises1To9() {
        Check.sentence("No clocks, no links.", CallEdgeTest::newObject);
        Check.sentence("A new clock: its number.", CallEdgeTest::newClock);
        Check.sentence("A new link between clocks a and b (they may have one already)", CallEdgeTest::secondLink);
        Check.sentence("with delays from a to b and from b to a: its number", CallEdgeTest::delaysEachWay);
        Check.sentence("IllegalArgumentException also if a is b", CallEdgeTest::linkToItself);
        Check.sentence("IllegalStateException also if a or b is ordinary and has one", CallEdgeTest::ordinaryHasOne);
        Check.sentence("(its kind stays; ", CallEdgeTest::kindStays);
        Check.sentence("it may be down; ", CallEdgeTest::gradeWhenDown);
        Check.sentence("they count from the next decision on)", CallEdgeTest::gradeFromTheNextDecision);
        Check.sentence("A clock comes up or goes down ", CallEdgeTest::powerUpAndDown);
        Check.sentence("(messages on links stay on them till they come)", CallEdgeTest::messagesStayOnLinks);
        Check.sentence("A link comes up or goes down; ", CallEdgeTest::joinUpAndDown);
        Check.sentence("when it goes down, its ports are LISTENING and have heard nothing", CallEdgeTest::joinDown);
        Check.sentence("Message i (from 0, of those on links, in order) is lost.", CallEdgeTest::loseAnyOfThem);
        Check.sentence("NoSuchElementException: there is none.", CallEdgeTest::loseNone);
        Check.sentence("The reading of a clock becomes t, brought to -1000000000000 .. 1000000000000.",
                CallEdgeTest::setIsBroughtIn);
        Check.sentence("A tick: how many messages came (those to transparent clocks, to clocks that were down, or lost"
                + " by hops, too).", CallEdgeTest::howManyCame);
    }

    private static void promises10To19() {
        Check.sentence("NoSuchElementException also if the clock is transparent or has not that link.",
                CallEdgeTest::noSuchPort);
        Check.sentence("The grade heard at a port: what 0 .. 4 its five numbers, 5 the tick when it was heard; -1 if"
                + " there is none.", CallEdgeTest::heardOrNone);
        Check.sentence("IllegalArgumentException: another what (tested last).", CallEdgeTest::heardAnotherWhat);
        Check.sentence("Of a clock: what 0: its best clock (itself before its first decision), 1: the steps to it",
                CallEdgeTest::bestBeforeTheFirstDecision);
        Check.sentence("2: the link of its slave port (-1: none)", CallEdgeTest::slavePortOrNone);
        Check.sentence("3: ADJUST, 4: 1 if it has a mean, else 0; 5: 1 if a request is open, else 0.",
                CallEdgeTest::restOfLook);
        Check.sentence("IllegalArgumentException: another what (for a transparent one 0: itself, 1: 0, 2: -1, the"
                + " others 0).", CallEdgeTest::lookAnotherWhat);
        Check.sentence("The reading of a clock.", CallEdgeTest::readingOfAClock);
        Check.sentence("The mean of a clock; 0 if it has none.", CallEdgeTest::meanOrNone);
        Check.sentence("The sum of a clock.", CallEdgeTest::sumOfAClock);
        Check.sentence("How far a clock is behind another: (float) (its reading less the other's) / 1000.0f.",
                CallEdgeTest::apartAsAFloat);
        Check.sentence("7 the tick in which it comes; -1 if there is no such message.", CallEdgeTest::messageOrNone);
        Check.sentence("-1 if there is no such message. IllegalArgumentException: another what.",
                CallEdgeTest::messageAnotherWhat);
        Check.sentence("Of message i: its TIME, or its CORRECTION; 0 if there is no such message.",
                CallEdgeTest::stampOrNone);
        Check.sentence("1 how many were lost (by room, links, hops, clocks that are down, and lose()), 2 NOW.",
                CallEdgeTest::lostByEach);
        Check.sentence("2 NOW. IllegalArgumentException: another what.", CallEdgeTest::countAnotherWhat);
    }

    private static ClockNet pair7() {
        return Nets.pair(7);
    }

    private static ClockNet star15() {
        return Nets.star(15);
    }

    private static ClockNet eightClocksTenLinks() {
        ClockNet x = new ClockNet();
        for (int c = 0; c < 8; c++) {
            x.clock(c < 2 ? 0 : 1, 10 * c, 0, 0);
        }
        x.link(0, 2, 1, 1);
        for (int l = 1; l < 10; l++) {
            x.link(2 + l % 5, 3 + l % 5, 1, 1);
        }
        return Nets.ticks(x, 6);
    }

    /** A clock follows another, has a mean, a sum, an ADJUST and an open request, and messages are on links. */
    private static void whatThrowsChangesNothing() {
        Supplier<ClockNet> net = () -> Nets.uneven(16);
        Refused.badArgument("clock", net, x -> x.clock(3, 0, 0, 0));
        Refused.noSuch("link", net, x -> x.link(0, 2, 1, 1));
        Refused.badArgument("link", net, x -> x.link(0, 1, 6, 1));
        Refused.badState("link", net, x -> x.link(0, 1, 1, 1));
        Refused.noSuch("grade", net, x -> x.grade(2, 0, 0, 0));
        Refused.badArgument("grade", net, x -> x.grade(1, 0, 0, 51));
        Refused.noSuch("power", net, x -> x.power(2, false));
        Refused.badState("power", net, x -> x.power(1, true));
        Refused.noSuch("join", net, x -> x.join(1, false));
        Refused.badState("join", net, x -> x.join(0, true));
        Refused.noSuch("lose", net, x -> x.lose(x.count(0)));
        Refused.noSuch("set", net, x -> x.set(2, 0));
        Refused.noSuch("port", net, x -> x.port(0, 1));
        Refused.noSuch("heard", net, x -> x.heard(0, 1, 0));
        Refused.badArgument("heard", net, x -> x.heard(0, 0, 6));
        Refused.noSuch("look", net, x -> x.look(2, 0));
        Refused.badArgument("look", net, x -> x.look(1, 6));
        Refused.noSuch("reading", net, x -> x.reading(2));
        Refused.noSuch("mean", net, x -> x.mean(2));
        Refused.noSuch("sum", net, x -> x.sum(2));
        Refused.noSuch("apart", net, x -> x.apart(0, 2));
        Refused.badArgument("message", net, x -> x.message(0, 8));
        Refused.badArgument("count", net, x -> x.count(3));
        ClockNet y = eightClocksTenLinks();
        Check.due("a net with all clocks and links: on links", y.count(0) > 0 ? 1 : 0, 1);
        Refused.badState("clock, no room", CallEdgeTest::eightClocksTenLinks, x -> x.clock(0, 0, 0, 0));
        Refused.badState("link, no room", CallEdgeTest::eightClocksTenLinks, x -> x.link(3, 4, 1, 1));
    }

    private static void numbersNotAsSaid() {
        Supplier<ClockNet> net = CallEdgeTest::pair7;
        Refused.badArgument("all numbers of clock()", net, x -> x.clock(-1, -1, -1, -51));
        Refused.badArgument("all numbers of clock()", net, x -> x.clock(3, 256, 256, 51));
        Refused.badArgument("all numbers of grade()", net, x -> x.grade(0, -1, -1, -51));
        Refused.badArgument("all numbers of grade()", net, x -> x.grade(0, 256, 256, 51));
        Refused.badArgument("both delays", net, x -> x.link(0, 1, 0, 6));
        Check.due("none of them too small", pair7().clock(0, 0, 0, -50), 2);
        Check.due("none of them too large", pair7().clock(2, 255, 255, 50), 2);
    }

    private static void noSuchFirst() {
        for (int c : new int[] {2, -1, 8, LEAST, MOST}) {
            Supplier<ClockNet> net = CallEdgeTest::pair7;
            Refused.noSuch("link from " + c, net, x -> x.link(c, 0, 0, 6));
            Refused.noSuch("link to " + c, net, x -> x.link(0, c, 0, 6));
            Refused.noSuch("link of it to itself", net, x -> x.link(c, c, 1, 1));
            Refused.noSuch("grade of " + c, net, x -> x.grade(c, -1, 256, 51));
            Refused.noSuch("power of " + c, net, x -> x.power(c, true));
            Refused.noSuch("power of " + c, net, x -> x.power(c, false));
            Refused.noSuch("set " + c, net, x -> x.set(c, 5));
            Refused.noSuch("port of " + c, net, x -> x.port(c, 0));
            Refused.noSuch("heard by " + c, net, x -> x.heard(c, 0, 6));
            Refused.noSuch("look at " + c, net, x -> x.look(c, 6));
            Refused.noSuch("reading of " + c, net, x -> x.reading(c));
            Refused.noSuch("mean of " + c, net, x -> x.mean(c));
            Refused.noSuch("sum of " + c, net, x -> x.sum(c));
            Refused.noSuch("apart, first " + c, net, x -> x.apart(c, 0));
            Refused.noSuch("apart, second " + c, net, x -> x.apart(0, c));
        }
        for (int l : new int[] {1, -1, 10, LEAST, MOST}) {
            Refused.noSuch("join " + l + " up", CallEdgeTest::pair7, x -> x.join(l, true));
            Refused.noSuch("join " + l + " down", CallEdgeTest::pair7, x -> x.join(l, false));
            Refused.noSuch("port on " + l, CallEdgeTest::pair7, x -> x.port(0, l));
            Refused.noSuch("heard on " + l, CallEdgeTest::pair7, x -> x.heard(0, l, 6));
        }
    }

    private static void noRoomOrSoAlready() {
        Supplier<ClockNet> full = CallEdgeTest::eightClocksTenLinks;
        Refused.badState("a ninth clock", full, x -> x.clock(2, 255, 255, 50));
        Refused.badState("an eleventh link", full, x -> x.link(5, 6, 5, 5));
        Refused.badState("up already", full, x -> x.power(7, true));
        Refused.badState("up already", full, x -> x.join(9, true));
        Supplier<ClockNet> down = () -> {
            ClockNet x = eightClocksTenLinks();
            x.power(7, false);
            x.join(9, false);
            return x;
        };
        Refused.badState("down already", down, x -> x.power(7, false));
        Refused.badState("down already", down, x -> x.join(9, false));
    }

    private static void theFirstOfSeveral() {
        Supplier<ClockNet> full = CallEdgeTest::eightClocksTenLinks;
        Refused.badArgument("a ninth clock, kind 3", full, x -> x.clock(3, 0, 0, 0));
        Refused.badArgument("a ninth clock, priority 256", full, x -> x.clock(0, 256, 0, 0));
        Refused.badArgument("a ninth clock, class -1", full, x -> x.clock(0, 0, -1, 0));
        Refused.badArgument("a ninth clock, drift 51", full, x -> x.clock(0, 0, 0, 51));
        Refused.noSuch("no clock, a wrong delay, no room", full, x -> x.link(8, 0, 0, 1));
        Refused.noSuch("no clock, an ordinary one that has one, no room", full, x -> x.link(0, 8, 1, 1));
        Refused.badArgument("a wrong delay, no room", full, x -> x.link(3, 4, 1, 6));
        Refused.badArgument("a wrong delay, an ordinary one that has one", full, x -> x.link(0, 4, 0, 1));
        Refused.badArgument("a is b, an ordinary one that has one", full, x -> x.link(0, 0, 1, 1));
        Refused.badArgument("a is b, no room", full, x -> x.link(3, 3, 1, 1));
        Refused.noSuch("no clock, wrong numbers", full, x -> x.grade(8, 256, 256, 51));
        Refused.noSuch("no clock, a wrong what", full, x -> x.look(8, 6));
        Refused.noSuch("no clock, a wrong what", full, x -> x.heard(8, 0, 6));
        Refused.noSuch("no link, a wrong what", full, x -> x.heard(0, 10, -1));
        Refused.noSuch("not its link, a wrong what", full, x -> x.heard(7, 0, 6));
    }

    private static void wrongWhatBeforeNone() {
        ClockNet x = Nets.pair(1);
        Check.due("nothing is heard", x.heard(0, 0, 5), -1);
        Check.due("no message is there", x.message(0, 7), -1);
        Supplier<ClockNet> net = () -> Nets.pair(1);
        for (int what : new int[] {6, -1, LEAST, MOST}) {
            Refused.badArgument("heard, none, what " + what, net, y -> y.heard(0, 0, what));
            Refused.badArgument("look, no slave, what " + what, net, y -> y.look(0, what));
        }
        for (int what : new int[] {8, -1, LEAST, MOST}) {
            Refused.badArgument("message 0, none, what " + what, net, y -> y.message(0, what));
            Refused.badArgument("message -1, what " + what, net, y -> y.message(-1, what));
        }
    }

    private static void newObject() {
        Supplier<ClockNet> net = ClockNet::new;
        Refused.noSuch("reading(0)", net, x -> x.reading(0));
        Refused.noSuch("look(0, 0)", net, x -> x.look(0, 0));
        Refused.noSuch("power(0, false)", net, x -> x.power(0, false));
        Refused.noSuch("join(0, false)", net, x -> x.join(0, false));
        Refused.noSuch("port(0, 0)", net, x -> x.port(0, 0));
        Refused.noSuch("link(0, 1, 1, 1)", net, x -> x.link(0, 1, 1, 1));
        Refused.noSuch("lose(0)", net, x -> x.lose(0));
        ClockNet x = new ClockNet();
        Check.due("message(0, 0)", x.message(0, 0), -1);
        Check.due("stamp(0, false)", x.stamp(0, false), 0);
        Check.due("tick()", x.tick(), 0);
        Check.due("count(0)", x.count(0), 0);
        Check.due("count(1)", x.count(1), 0);
        Check.due("the first clock", x.clock(0, 0, 0, 0), 0);
        Check.noSuch("port(0, 0)", () -> x.port(0, 0));
        ClockNet other = new ClockNet();
        Check.noSuch("another object has none of it", () -> other.reading(0));
    }

    private static void newClock() {
        ClockNet x = new ClockNet();
        Check.due("the first", x.clock(2, 0, 0, 0), 0);
        Check.badArgument("a refused one", () -> x.clock(3, 0, 0, 0));
        Check.due("the second", x.clock(2, 0, 0, 0), 1);
        x.power(1, false);
        x.tick();
        Check.due("the third, when one is down", x.clock(0, 255, 255, 50), 2);
        for (int c = 3; c < 8; c++) {
            Check.due("clock " + c, x.clock(1, 0, 0, 0), c);
        }
        Check.badState("a ninth when one is down", () -> x.clock(1, 0, 0, 0));
    }

    private static void secondLink() {
        ClockNet x = Nets.cable(0, 1, 1);
        Check.due("the first", x.link(0, 1, 1, 1), 0);
        Check.due("the same again", x.link(0, 1, 1, 1), 1);
        Check.due("the other way", x.link(1, 0, 1, 1), 2);
        Nets.ticks(x, 5);
        Check.due("one slave", x.port(1, 0), 2);
        Check.due("the others passive", x.port(1, 1), 3);
        Check.due("the others passive", x.port(1, 2), 3);
    }

    private static void delaysEachWay() {
        ClockNet x = Nets.cable(0, 1, 1);
        x.link(0, 1, 1, 5);
        x.link(1, 0, 1, 5);
        Nets.ticks(x, 2);
        int[] comes = {3, 3, 7, 7, 7, 7, 3, 3};
        for (int i = 0; i < comes.length; i++) {
            Check.due("message " + i + " is of", x.message(i, 1), i / 4);
            Check.due("message " + i + " comes", x.message(i, 7), comes[i]);
        }
    }

    private static void linkToItself() {
        for (int kind = 0; kind < 3; kind++) {
            int k = kind;
            Supplier<ClockNet> net = () -> {
                ClockNet x = Nets.pair(3);
                x.clock(k, 0, 0, 0);
                return x;
            };
            Refused.badArgument("clock of kind " + k + " to itself", net, x -> x.link(2, 2, 1, 1));
        }
        Refused.badArgument("one that has one", CallEdgeTest::pair7, x -> x.link(1, 1, 5, 5));
    }

    private static void ordinaryHasOne() {
        Supplier<ClockNet> net = () -> {
            ClockNet x = Nets.star(3);
            x.clock(0, 1, 1, 0);
            x.clock(1, 1, 1, 0);
            return x;
        };
        Refused.badState("a has one", net, x -> x.link(0, 4, 1, 1));
        Refused.badState("b has one", net, x -> x.link(4, 0, 1, 1));
        Refused.badState("both have one", net, x -> x.link(0, 2, 1, 1));
        Refused.badState("a has one, b is a boundary clock", net, x -> x.link(3, 5, 1, 1));
        Refused.badState("b has one, a is transparent", net, x -> x.link(1, 3, 1, 1));
        Check.due("neither has one", net.get().link(4, 5, 1, 1), 3);
        Check.due("the transparent one has three", net.get().link(1, 4, 1, 1), 3);
        Check.due("the boundary clock has none", net.get().link(5, 1, 1, 1), 3);
    }

    private static void kindStays() {
        ClockNet x = Nets.star(3);
        x.grade(0, 1, 1, 1);
        x.grade(1, 1, 1, 1);
        x.tick();
        Check.noSuch("a transparent one has no ports", () -> x.port(1, 0));
        Check.badState("an ordinary one has at most one link", () -> x.link(0, 2, 1, 1));
        Check.due("look at a transparent one", x.look(1, 2), -1);
    }

    private static void gradeWhenDown() {
        ClockNet x = Nets.pair(12);
        x.power(1, false);
        x.grade(1, 1, 2, 0);
        x.power(1, true);
        Nets.ticks(x, 4);
        Check.due("16: it leads", x.look(1, 0), 1);
        x.tick();
        Check.due("17: the other follows", x.look(0, 0), 1);
        Check.due("17: priority heard", x.heard(0, 0, 0), 1);
        Check.due("17: class heard", x.heard(0, 0, 1), 2);
    }

    private static void gradeFromTheNextDecision() {
        ClockNet x = Nets.pair(8);
        int onLinks = x.count(0);
        x.grade(1, 10, 5, 0);
        Check.due("before it: best", x.look(1, 0), 0);
        Check.due("before it: state", x.port(1, 0), 2);
        Check.due("before it: on links", x.count(0), onLinks);
        x.grade(0, 255, 255, 0);
        x.tick();
        Check.due("9: what was announced before", x.heard(1, 0, 0), 10);
        Check.due("9: best of 1", x.look(1, 0), 1);
        Check.due("9: clock 0 has heard 1's old grade, better than its own", x.look(0, 0), 1);
        ClockNet twice = Nets.pair(8);
        twice.grade(1, 1, 1, 0);
        twice.grade(1, 20, 6, 0);
        twice.tick();
        Check.due("only the latest counts", twice.look(1, 0), 0);
        Check.due("and the mean is there", twice.look(1, 4), 1);
    }

    private static void powerUpAndDown() {
        for (int kind = 0; kind < 3; kind++) {
            ClockNet x = new ClockNet();
            x.clock(kind, 0, 0, 0);
            Check.badState("up at first", () -> x.power(0, true));
            x.power(0, false);
            Check.badState("down", () -> x.power(0, false));
            x.tick();
            Check.badState("down, a tick later", () -> x.power(0, false));
            x.power(0, true);
            Check.badState("up", () -> x.power(0, true));
            x.power(0, false);
            Check.due("it grew once", x.reading(0), 1000);
        }
    }

    private static void messagesStayOnLinks() {
        ClockNet x = Nets.uneven(8);
        int onLinks = x.count(0);
        x.power(0, false);
        x.power(1, false);
        Check.due("both down", x.count(0), onLinks);
        Check.due("nothing is lost", x.count(1), 0);
        int came = x.tick() + x.tick() + x.tick();
        Check.due("all come", came, onLinks);
        Check.due("and are lost", x.count(1), onLinks);
        ClockNet y = Nets.uneven(8);
        y.power(0, false);
        Nets.ticks(y, 3);
        Check.due("11: what clock 0 sent at 8 is heard", y.heard(1, 0, 5), 11);
    }

    private static void joinUpAndDown() {
        ClockNet x = Nets.pair(3);
        Check.badState("up at first", () -> x.join(0, true));
        x.join(0, false);
        Check.badState("down", () -> x.join(0, false));
        x.tick();
        Check.badState("down, a tick later", () -> x.join(0, false));
        x.join(0, true);
        Check.badState("up", () -> x.join(0, true));
        x.tick();
        Check.due("nothing comes of that alone", x.count(0), 0);
        x.tick();
        Check.due("6: both are masters and send", x.count(0), 4);
    }

    private static void joinDown() {
        ClockNet x = Nets.ticks(Nets.cable(2, 1, 1), 7);
        Check.due("before: slave", x.port(1, 0), 2);
        Check.due("before: heard at the master", x.heard(0, 0, 5), 5);
        x.join(0, false);
        for (int c = 0; c < 2; c++) {
            Check.due("state at " + c, x.port(c, 0), 0);
            for (int what = 0; what < 6; what++) {
                Check.due("heard at " + c + ", what " + what, x.heard(c, 0, what), -1);
            }
        }
        Check.due("the other link: state", x.port(1, 1), 3);
        Check.due("the other link: heard", x.heard(1, 1, 5), 5);
        Check.due("the other link: heard at the master", x.heard(0, 1, 5), 5);
        x.join(0, true);
        Check.due("up: state", x.port(1, 0), 0);
        Check.due("up: heard", x.heard(1, 0, 5), -1);
        // A link to a transparent clock has a port at one end only.
        ClockNet y = Nets.star(7);
        y.join(1, false);
        Check.due("toward a transparent clock: state", y.port(2, 1), 0);
        Check.due("toward a transparent clock: heard", y.heard(2, 1, 0), -1);
    }

    private static void loseAnyOfThem() {
        for (int i = 0; i < 4; i++) {
            ClockNet x = Nets.pair(2);
            x.lose(i);
            Check.due("lose(" + i + "): on links", x.count(0), 3);
            Check.due("lose(" + i + "): lost", x.count(1), 1);
            for (int k = 0; k < 3; k++) {
                int was = k < i ? k : k + 1;
                Check.due("lose(" + i + "): sender of " + k, x.message(k, 1), was / 2);
                Check.due("lose(" + i + "): type of " + k, x.message(k, 0), 1 + was % 2);
            }
            Check.due("lose(" + i + "): the others come", x.tick(), 3);
        }
        ClockNet all = Nets.pair(2);
        for (int i = 0; i < 4; i++) {
            all.lose(0);
        }
        Check.due("all: on links", all.count(0), 0);
        Check.due("all: lost", all.count(1), 4);
        Check.due("all: none comes", all.tick(), 0);
    }

    private static void loseNone() {
        for (int i : new int[] {4, -1, 60, LEAST, MOST}) {
            Refused.noSuch("lose(" + i + ")", () -> Nets.pair(2), x -> x.lose(i));
        }
        Refused.noSuch("lose(0) when there are none", () -> Nets.pair(1), x -> x.lose(0));
        Refused.noSuch("lose(60) of sixty", CallEdgeTest::sixty, x -> x.lose(60));
        ClockNet x = sixty();
        x.lose(59);
        Check.due("lose(59) of sixty", x.count(0), 59);
    }

    private static ClockNet sixty() {
        ClockNet x = Nets.ticks(Nets.cable(10, 5, 5), 4);
        Check.due("on links", x.count(0), 60);
        return x;
    }

    private static void setIsBroughtIn() {
        long most = 1000000000000L;
        long[] set = {0, 1, -1, most - 1, most, most + 1, Long.MAX_VALUE, 1 - most, -most, -most - 1, Long.MIN_VALUE};
        long[] due = {0, 1, -1, most - 1, most, most, most, 1 - most, -most, -most, -most};
        for (int i = 0; i < set.length; i++) {
            for (int c = 0; c < 2; c++) {
                ClockNet x = Nets.star(2);
                x.set(c, set[i]);
                Check.due("set(" + c + ", " + set[i] + ")", x.reading(c), due[i]);
                x.tick();
                Check.due("a tick later it is brought to nothing", x.reading(c), due[i] + 1000);
                Check.due("the other one", x.reading(2), 3000);
            }
        }
        ClockNet down = Nets.pair(1);
        down.power(0, false);
        down.set(0, most + 1);
        Check.due("a clock that is down", down.reading(0), most);
        for (int c : new int[] {2, -1}) {
            Refused.noSuch("set(" + c + ", ..)", CallEdgeTest::pair7, x -> x.set(c, 5));
        }
    }

    private static void howManyCame() {
        ClockNet x = Nets.pair(0);
        int[] due = {0, 0, 4, 0, 6, 0, 3, 1};
        for (int i = 0; i < due.length; i++) {
            Check.due((i + 1) + ": came", x.tick(), due[i]);
        }
        Check.due("to a transparent clock", Nets.star(2).tick(), 6);
        ClockNet down = Nets.pair(2);
        down.power(0, false);
        down.power(1, false);
        Check.due("to clocks that are down", down.tick(), 4);
        ClockNet hops = Nets.ticks(Nets.chain(5), 2);
        int came = 0;
        while (hops.count(2) < 11) {
            came = hops.tick();
        }
        Check.due("11: lost by hops, too", came, 24);
        Check.due("11: lost", hops.count(1), 4);
        ClockNet lost = Nets.pair(2);
        lost.lose(0);
        Check.due("not those that were lost before", lost.tick(), 3);
        ClockNet link = Nets.pair(2);
        link.join(0, false);
        Check.due("nor those of a link that went down", link.tick(), 0);
    }

    private static void noSuchPort() {
        Supplier<ClockNet> net = CallEdgeTest::star15;
        Refused.noSuch("transparent", net, x -> x.port(1, 0));
        Refused.noSuch("transparent", net, x -> x.port(1, 2));
        Refused.noSuch("not its link", net, x -> x.port(0, 2));
        Refused.noSuch("not its link", net, x -> x.port(3, 0));
        Refused.noSuch("no link", net, x -> x.port(0, 3));
        Refused.noSuch("no clock", net, x -> x.port(4, 0));
        Check.due("its own, as the first end", net.get().port(0, 0), 1);
        Check.due("its own, as the second end", net.get().port(3, 2), 2);
        ClockNet down = net.get();
        down.power(3, false);
        down.join(0, false);
        Check.due("of a clock that is down", down.port(3, 2), 0);
        Check.due("of a link that is down", down.port(0, 0), 0);
    }

    private static void heardOrNone() {
        ClockNet x = new ClockNet();
        x.clock(0, 41, 42, 0);
        x.clock(0, 51, 52, 0);
        x.link(0, 1, 2, 1);
        Nets.ticks(x, 5);
        int[] at0 = {51, 52, 1, 0, 1, 5};
        int[] at1 = {41, 42, 0, 0, 0, 6};
        for (int what = 0; what < 6; what++) {
            Check.due("5: none at 1, what " + what, x.heard(1, 0, what), -1);
            Check.due("5: at 0, what " + what, x.heard(0, 0, what), at0[what]);
        }
        x.tick();
        for (int what = 0; what < 6; what++) {
            Check.due("6: at 1, what " + what, x.heard(1, 0, what), at1[what]);
        }
    }

    private static void heardAnotherWhat() {
        for (int what : new int[] {6, -1, LEAST, MOST}) {
            Refused.badArgument("what " + what, CallEdgeTest::pair7, x -> x.heard(1, 0, what));
            Refused.noSuch("transparent, what " + what, CallEdgeTest::star15, x -> x.heard(1, 0, what));
            Refused.noSuch("not its link, what " + what, CallEdgeTest::star15, x -> x.heard(0, 1, what));
        }
        Check.due("what 5", pair7().heard(1, 0, 5), 5);
        Check.due("what 0", pair7().heard(1, 0, 0), 10);
    }

    private static void bestBeforeTheFirstDecision() {
        ClockNet x = Nets.star(0);
        for (int c = 0; c < 4; c++) {
            Check.due("best of " + c, x.look(c, 0), c);
            Check.due("steps of " + c, x.look(c, 1), 0);
        }
        Nets.ticks(x, 7);
        Check.due("best of 0", x.look(0, 0), 0);
        Check.due("best of 3", x.look(3, 0), 0);
        Check.due("steps of 3", x.look(3, 1), 1);
        Check.due("a clock made later", x.clock(1, 0, 0, 0), 4);
        Check.due("its best", x.look(4, 0), 4);
        ClockNet down = Nets.pair(7);
        down.power(1, false);
        down.power(1, true);
        Check.due("up again, before its decision", down.look(1, 0), 1);
        Check.due("up again, steps", down.look(1, 1), 0);
    }

    private static void slavePortOrNone() {
        ClockNet x = Nets.cable(3, 1, 1);
        Check.due("at first", x.look(1, 2), -1);
        Nets.ticks(x, 4);
        Check.due("while it leads", x.look(1, 2), -1);
        x.tick();
        Check.due("link 0", x.look(1, 2), 0);
        Check.due("of the master", x.look(0, 2), -1);
        x.join(0, false);
        x.tick();
        Check.due("another link", x.look(1, 2), 1);
        x.join(1, false);
        x.join(2, false);
        x.tick();
        Check.due("none", x.look(1, 2), -1);
        ClockNet last = Nets.cable(10, 1, 1);
        for (int l = 0; l < 9; l++) {
            last.join(l, false);
        }
        Nets.ticks(last, 5);
        Check.due("the tenth link", last.look(1, 2), 9);
    }

    private static void restOfLook() {
        ClockNet x = Nets.uneven(13);
        Check.due("13: ADJUST", x.look(1, 3), 0);
        Check.due("13: a mean", x.look(1, 4), 0);
        Check.due("13: a request", x.look(1, 5), 1);
        x.tick();
        Check.due("14: a mean", x.look(1, 4), 1);
        x.tick();
        Check.due("15: ADJUST", x.look(1, 3), -312);
        for (int what = 3; what < 6; what++) {
            Check.due("15: of the master, what " + what, x.look(0, what), 0);
        }
        ClockNet y = Nets.pair(8);
        Check.due("8: a request", y.look(1, 5), 0);
    }

    private static void lookAnotherWhat() {
        for (int what : new int[] {6, -1, LEAST, MOST}) {
            Refused.badArgument("what " + what, CallEdgeTest::star15, x -> x.look(2, what));
            Refused.badArgument("transparent, what " + what, CallEdgeTest::star15, x -> x.look(1, what));
        }
        int[] due = {1, 0, -1, 0, 0, 0};
        for (int what = 0; what < 6; what++) {
            Check.due("transparent, what " + what, star15().look(1, what), due[what]);
            ClockNet down = star15();
            down.power(1, false);
            Check.due("transparent and down, what " + what, down.look(1, what), due[what]);
        }
    }

    private static void ofEachClock(String call, Consumer<Integer> run) {
        for (int c : new int[] {4, -1, 8, LEAST, MOST}) {
            Check.noSuch(call + " of " + c, () -> run.accept(c));
        }
        for (int c = 0; c < 4; c++) {
            run.accept(c);
        }
    }

    private static void readingOfAClock() {
        ClockNet x = star15();
        ofEachClock("reading", x::reading);
        Check.due("of a transparent one", x.reading(1), 15000);
        x.power(1, false);
        x.tick();
        Check.due("of one that is down", x.reading(1), 16000);
    }

    private static void meanOrNone() {
        ClockNet x = star15();
        ofEachClock("mean", x::mean);
        Check.dueFloat("15: none", x.mean(2), 0.0f);
        Check.dueFloat("15: of a transparent one", x.mean(1), 0.0f);
        x.tick();
        Check.dueFloat("16: one", x.mean(2), 1000.0f);
        Check.dueFloat("16: of the master", x.mean(0), 0.0f);
        x.power(2, false);
        Check.dueFloat("16: of one that is down", x.mean(2), 0.0f);
        ClockNet y = Nets.uneven(16);
        y.join(0, false);
        y.tick();
        Check.dueFloat("17: none any more", y.mean(1), 0.0f);
    }

    private static void sumOfAClock() {
        ClockNet x = star15();
        ofEachClock("sum", x::sum);
        Check.dueFloat("of a transparent one", x.sum(1), 0.0f);
        ClockNet y = Nets.uneven(15);
        Check.dueFloat("of a slave", y.sum(1), 62.5f);
        Check.dueFloat("of a master", y.sum(0), 0.0f);
    }

    private static void apartAsAFloat() {
        ClockNet x = Nets.star(0);
        ofEachClock("apart, first", c -> x.apart(c, 0));
        ofEachClock("apart, second", c -> x.apart(0, c));
        x.set(0, 1500);
        x.set(1, 250);
        Check.dueFloat("1500 - 250", x.apart(0, 1), 1.25f);
        Check.dueFloat("250 - 1500", x.apart(1, 0), -1.25f);
        Check.dueFloat("from itself", x.apart(0, 0), 0.0f);
        x.set(0, 1);
        x.set(1, 0);
        Check.dueFloat("1", x.apart(0, 1), 0.001f);
        x.set(0, 1000000000000L);
        x.set(1, 999999999999L);
        Check.dueFloat("longs are subtracted first", x.apart(0, 1), 0.001f);
        x.set(1, -1000000000000L);
        Check.dueFloat("the farthest apart by set()", x.apart(0, 1), 2000000000000.0f / 1000.0f);
        Check.dueFloat("the other way", x.apart(1, 0), -2000000000000.0f / 1000.0f);
        x.set(0, 16777217);
        x.set(1, 0);
        Check.dueFloat("a float is divided by a float", x.apart(0, 1), 16777.216f);
    }

    private static void messageOrNone() {
        ClockNet x = Nets.pair(2);
        int[][] due = {
            {1, 0, 9, 2, 0, 0, 1, 3},
            {2, 0, 9, 2, 0, 0, 1, 3},
            {1, 1, 9, 2, 0, 0, 0, 3},
            {2, 1, 9, 2, 0, 0, 0, 3},
        };
        for (int what = 0; what < 8; what++) {
            for (int i = 0; i < 4; i++) {
                Check.due("message " + i + ", what " + what, x.message(i, what), due[i][what]);
            }
            for (int i : new int[] {4, -1, 59, 60, LEAST, MOST}) {
                Check.due("message " + i + ", what " + what, x.message(i, what), -1);
            }
        }
        ClockNet full = sixty();
        Check.due("the sixtieth", full.message(59, 5) >= 0 ? 1 : 0, 1);
        Check.due("no sixty-first", full.message(60, 5), -1);
    }

    private static void messageAnotherWhat() {
        for (int what : new int[] {8, -1, LEAST, MOST}) {
            for (int i : new int[] {0, 3, 4, -1, 60}) {
                Refused.badArgument("message " + i + ", what " + what, () -> Nets.pair(2), x -> x.message(i, what));
            }
        }
    }

    private static void stampOrNone() {
        ClockNet x = Nets.ticks(Nets.chain(1), 3);
        Check.due("on links", x.count(0), 4);
        Check.due("the last one's time", x.stamp(3, false), 2000);
        Check.due("the last one's correction", x.stamp(3, true), 1000);
        for (int i : new int[] {4, -1, 59, 60, LEAST, MOST}) {
            Check.due("time of " + i, x.stamp(i, false), 0);
            Check.due("correction of " + i, x.stamp(i, true), 0);
        }
        ClockNet y = Nets.pair(0);
        y.set(0, -1000000000000L);
        Nets.ticks(y, 2);
        Check.due("a time below an int", y.stamp(1, false), -999999998000L);
        y.lose(3);
        Check.due("one that was lost", y.stamp(3, false), 0);
    }

    private static void lostByEach() {
        ClockNet room = Nets.ticks(Nets.cable(10, 5, 5), 3);
        Check.due("room: none yet", room.count(1), 0);
        room.tick();
        Check.due("by room", room.count(1), 40);
        ClockNet link = Nets.star(2);
        link.join(0, false);
        Check.due("by a link that goes down", link.count(1), 2);
        link.tick();
        Check.due("by a link that is down", link.count(1), 2 + 4);
        ClockNet hops = Nets.ticks(Nets.chain(5), 10);
        Check.due("hops: none yet", hops.count(1), 0);
        hops.tick();
        Check.due("by hops", hops.count(1), 4);
        ClockNet down = Nets.pair(2);
        down.power(0, false);
        down.tick();
        Check.due("by a clock that is down", down.count(1), 2);
        ClockNet lose = Nets.pair(2);
        lose.lose(3);
        Check.due("by lose()", lose.count(1), 1);
        lose.tick();
        Check.due("and not once more", lose.count(1), 1);
    }

    private static void countAnotherWhat() {
        for (int what : new int[] {3, -1, LEAST, MOST}) {
            Refused.badArgument("what " + what, CallEdgeTest::pair7, x -> x.count(what));
        }
        Check.due("what 0", pair7().count(0), 1);
        Check.due("what 1", pair7().count(1), 0);
        Check.due("what 2", pair7().count(2), 7);
    }
}
