import java.util.NoSuchElementException;

/**
 * A network of clocks that agree on the best of them and follow it.
 *
 * <p>Every row that a run needs is made in the constructor and used again, so that no call makes an object.
 */
public final class ClockNet {
    private static final int MOST_CLOCKS = 8;
    private static final int MOST_LINKS = 10;
    private static final int MOST_MESSAGES = 60;
    private static final int MOST_HOPS = 4;
    private static final int MOST_STEPS = 6;
    private static final int MOST_DELAY = 5;
    private static final int MOST_DRIFT = 50;
    private static final int MOST_ADJUST = 400;
    private static final long MOST_READING = 1000000000000L;
    private static final long TICK_LENGTH = 1000L;
    private static final int HEARD_AGE = 12;
    private static final int REQUEST_AGE = 64;

    private static final int ORDINARY = 0;
    private static final int TRANSPARENT = 2;

    private static final int LISTENING = 0;
    private static final int MASTER = 1;
    private static final int SLAVE = 2;
    private static final int PASSIVE = 3;

    private static final int ANNOUNCE = 0;
    private static final int SYNC = 1;
    private static final int FOLLOW = 2;
    private static final int REQUEST = 3;
    private static final int ANSWER = 4;

    private static final int FOR_ALL = 9;
    private static final int NONE = -1;

    private final Clock[] clocks = new Clock[MOST_CLOCKS];
    private final Link[] links = new Link[MOST_LINKS];
    private final Line line = new Line();
    private final Message draft = new Message();
    private final Message arrived = new Message();
    private final Grade candidate = new Grade();
    private int clockCount = 0;
    private int linkCount = 0;
    private int lost = 0;
    private int now = 0;

    public ClockNet() {
        for (int c = 0; c < MOST_CLOCKS; c++) {
            clocks[c] = new Clock(c);
        }
        for (int l = 0; l < MOST_LINKS; l++) {
            links[l] = new Link();
        }
    }

    public int clock(int kind, int priority, int grade, int drift)
            throws IllegalArgumentException, IllegalStateException {
        if (kind < ORDINARY || kind > TRANSPARENT) {
            throw new IllegalArgumentException("no such kind");
        }
        checkNumbers(priority, grade, drift);
        if (clockCount >= MOST_CLOCKS) {
            throw new IllegalStateException("no room for a clock");
        }
        Clock made = clocks[clockCount];
        made.kind = kind;
        made.take(priority, grade, drift);
        clockCount++;
        return made.number;
    }

    public int link(int a, int b, int there, int back)
            throws NoSuchElementException, IllegalArgumentException, IllegalStateException {
        checkClock(a);
        checkClock(b);
        if (a == b || !isDelay(there) || !isDelay(back)) {
            throw new IllegalArgumentException("not a link");
        }
        if (linkCount >= MOST_LINKS || isFull(a) || isFull(b)) {
            throw new IllegalStateException("no room for a link");
        }
        links[linkCount].lay(a, b, there, back);
        linkCount++;
        return linkCount - 1;
    }

    public void grade(int c, int priority, int grade, int drift)
            throws NoSuchElementException, IllegalArgumentException {
        checkClock(c);
        checkNumbers(priority, grade, drift);
        clocks[c].take(priority, grade, drift);
    }

    public void power(int c, boolean up) throws NoSuchElementException, IllegalStateException {
        checkClock(c);
        if (clocks[c].up == up) {
            throw new IllegalStateException("it is so already");
        }
        clocks[c].up = up;
        clocks[c].restart();
        for (int l = 0; l < linkCount; l++) {
            if (links[l].joins(c)) {
                links[l].portAt(c).close();
            }
        }
    }

    public void join(int l, boolean up) throws NoSuchElementException, IllegalStateException {
        checkLink(l);
        if (links[l].up == up) {
            throw new IllegalStateException("it is so already");
        }
        links[l].up = up;
        if (!up) {
            lost += line.dropAllOn(l);
            closePort(links[l].a, l);
            closePort(links[l].b, l);
        }
    }

    public void lose(int i) throws NoSuchElementException {
        if (!line.holds(i)) {
            throw new NoSuchElementException("no such message");
        }
        line.drop(i);
        lost++;
    }

    public void set(int c, long t) throws NoSuchElementException {
        checkClock(c);
        clocks[c].reading = Math.max(-MOST_READING, Math.min(MOST_READING, t));
    }

    public int tick() {
        now++;
        growReadings();
        int came = deliverDue();
        decideAll();
        sendAll();
        return came;
    }

    public int port(int c, int l) throws NoSuchElementException {
        checkPort(c, l);
        return links[l].portAt(c).state;
    }

    public int heard(int c, int l, int what) throws NoSuchElementException, IllegalArgumentException {
        checkPort(c, l);
        checkWhat(what, 5);
        Port p = links[l].portAt(c);
        if (!p.hasHeard) {
            return NONE;
        }
        return what == 5 ? p.heardAt : p.heard.part(what);
    }

    public int look(int c, int what) throws NoSuchElementException, IllegalArgumentException {
        checkClock(c);
        checkWhat(what, 5);
        Clock looked = clocks[c];
        switch (what) {
            case 0:
                return looked.told.best;
            case 1:
                return looked.told.steps;
            case 2:
                return looked.slave;
            case 3:
                return looked.adjust;
            case 4:
                return looked.measure.hasMean ? 1 : 0;
            default:
                return looked.measure.requestOpen ? 1 : 0;
        }
    }

    public long reading(int c) throws NoSuchElementException {
        checkClock(c);
        return clocks[c].reading;
    }

    public float mean(int c) throws NoSuchElementException {
        checkClock(c);
        Measure m = clocks[c].measure;
        return m.hasMean ? m.mean : 0.0f;
    }

    public float sum(int c) throws NoSuchElementException {
        checkClock(c);
        return clocks[c].measure.sum;
    }

    public float apart(int c, int other) throws NoSuchElementException {
        checkClock(c);
        checkClock(other);
        return (float) (clocks[c].reading - clocks[other].reading) / 1000.0f;
    }

    public int message(int i, int what) throws IllegalArgumentException {
        checkWhat(what, 7);
        return line.holds(i) ? line.rows[i].part(what) : NONE;
    }

    public long stamp(int i, boolean correction) {
        if (!line.holds(i)) {
            return 0L;
        }
        return correction ? line.rows[i].correction : line.rows[i].time;
    }

    public int count(int what) throws IllegalArgumentException {
        checkWhat(what, 2);
        if (what == 0) {
            return line.size;
        }
        return what == 1 ? lost : now;
    }

    private void checkClock(int c) {
        if (c < 0 || c >= clockCount) {
            throw new NoSuchElementException("no such clock");
        }
    }

    private void checkLink(int l) {
        if (l < 0 || l >= linkCount) {
            throw new NoSuchElementException("no such link");
        }
    }

    private void checkPort(int c, int l) {
        checkClock(c);
        checkLink(l);
        if (clocks[c].kind == TRANSPARENT || !links[l].joins(c)) {
            throw new NoSuchElementException("no such port");
        }
    }

    private static void checkNumbers(int priority, int grade, int drift) {
        if (!isByte(priority) || !isByte(grade) || drift < -MOST_DRIFT || drift > MOST_DRIFT) {
            throw new IllegalArgumentException("a number not as said");
        }
    }

    private static void checkWhat(int what, int most) {
        if (what < 0 || what > most) {
            throw new IllegalArgumentException("no such what");
        }
    }

    private static boolean isByte(int n) {
        return n >= 0 && n <= 255;
    }

    private static boolean isDelay(int n) {
        return n >= 1 && n <= MOST_DELAY;
    }

    private boolean isFull(int c) {
        if (clocks[c].kind != ORDINARY) {
            return false;
        }
        for (int l = 0; l < linkCount; l++) {
            if (links[l].joins(c)) {
                return true;
            }
        }
        return false;
    }

    // The clock has no slave port from now on, not only from its next decision on: look() must not name a closed one.
    private void closePort(int c, int l) {
        links[l].portAt(c).close();
        if (clocks[c].slave == l) {
            clocks[c].slave = NONE;
        }
    }

    private void growReadings() {
        for (int c = 0; c < clockCount; c++) {
            clocks[c].grow();
        }
    }

    // Only the messages that were there at first are walked over: what is sent meanwhile stands behind them.
    private int deliverDue() {
        int before = line.size;
        int came = 0;
        for (int seen = 0; seen < before; seen++) {
            int i = seen - came;
            if (line.rows[i].comes == now) {
                arrived.copy(line.rows[i]);
                line.drop(i);
                came++;
                deliver(arrived);
            }
        }
        return came;
    }

    private void deliver(Message m) {
        Clock to = clocks[m.to];
        if (!to.up) {
            lost++;
            return;
        }
        if (to.kind == TRANSPARENT) {
            passOn(m);
            return;
        }
        Port p = links[m.link].portAt(m.to);
        switch (m.type) {
            case ANNOUNCE:
                hear(m, to, p);
                break;
            case SYNC:
                if (p.follows(m.sender)) {
                    to.measure.openSync(m.number, to.reading, m.correction);
                }
                break;
            case FOLLOW:
                if (p.follows(m.sender)) {
                    takeFollow(m, to);
                }
                break;
            case REQUEST:
                if (m.receiver == to.number && p.state == MASTER) {
                    answer(m, to);
                }
                break;
            default:
                if (m.receiver == to.number) {
                    to.measure.closeRequest(m.number, m.time, m.correction);
                }
        }
    }

    private void passOn(Message m) {
        if (m.hops >= MOST_HOPS) {
            lost++;
            return;
        }
        m.hops++;
        m.correction += TICK_LENGTH;
        for (int l = 0; l < linkCount; l++) {
            if (l != m.link && links[l].joins(m.to)) {
                send(m, m.to, l, 1);
            }
        }
    }

    private void hear(Message m, Clock to, Port p) {
        if (m.grade.best == to.number || m.grade.steps >= MOST_STEPS) {
            return;
        }
        if (!p.hasHeard || m.sender == p.heard.says || m.grade.isBetterThan(p.heard)) {
            p.keep(m.grade, now);
        }
    }

    private static void takeFollow(Message m, Clock to) {
        boolean measured = to.measure.closeSync(m.number, m.time, m.correction);
        if (measured && to.measure.hasMean) {
            to.steer();
        }
    }

    private void answer(Message m, Clock by) {
        draft.begin(ANSWER, by.number, m.sender, m.number);
        draft.correction = m.correction;
        draft.time = by.reading;
        send(draft, by.number, m.link, 0);
    }

    private void decideAll() {
        for (int c = 0; c < clockCount; c++) {
            if (clocks[c].takesPart()) {
                forgetOldGrades(c);
                decide(clocks[c]);
            }
        }
    }

    private void forgetOldGrades(int c) {
        for (int l = 0; l < linkCount; l++) {
            if (links[l].joins(c)) {
                links[l].portAt(c).forgetIfOld(now);
            }
        }
    }

    private void decide(Clock c) {
        int from = bestHeardAt(c.number);
        if (from == NONE) {
            lead(c);
            return;
        }
        candidate.copy(links[from].portAt(c.number).heard);
        candidate.steps++;
        candidate.says = c.number;
        if (c.own.isBetterThan(candidate)) {
            lead(c);
        } else {
            follow(c, from);
        }
    }

    private int bestHeardAt(int c) {
        int from = NONE;
        for (int l = 0; l < linkCount; l++) {
            if (links[l].joins(c) && links[l].up && links[l].portAt(c).hasHeard) {
                Grade there = links[l].portAt(c).heard;
                if (from == NONE || there.isBetterThan(links[from].portAt(c).heard)) {
                    from = l;
                }
            }
        }
        return from;
    }

    private void lead(Clock c) {
        for (int l = 0; l < linkCount; l++) {
            if (links[l].joins(c.number)) {
                links[l].portAt(c.number).state = links[l].up ? MASTER : LISTENING;
            }
        }
        c.told.copy(c.own);
        c.slave = NONE;
        c.measure.forget();
    }

    private void follow(Clock c, int from) {
        for (int l = 0; l < linkCount; l++) {
            if (links[l].joins(c.number)) {
                links[l].portAt(c.number).state = stateBeside(c, l, from);
            }
        }
        c.told.copy(candidate);
        int says = links[from].portAt(c.number).heard.says;
        if (c.slave != from || c.slaveSays != says) {
            c.measure.forget();
        }
        c.slave = from;
        c.slaveSays = says;
    }

    private int stateBeside(Clock c, int l, int from) {
        if (!links[l].up) {
            return LISTENING;
        }
        if (l == from) {
            return SLAVE;
        }
        Port p = links[l].portAt(c.number);
        return p.hasHeard && p.heard.isBetterThan(candidate) ? PASSIVE : MASTER;
    }

    private void sendAll() {
        for (int c = 0; c < clockCount; c++) {
            if (clocks[c].takesPart()) {
                sendFrom(clocks[c]);
            }
        }
    }

    private void sendFrom(Clock c) {
        for (int l = 0; l < linkCount; l++) {
            if (links[l].joins(c.number)) {
                Port p = links[l].portAt(c.number);
                if (p.state == MASTER) {
                    sendAsMaster(c, l);
                } else if (p.state == SLAVE) {
                    sendAsSlave(c, l, p.heard.says);
                }
            }
        }
    }

    private void sendAsMaster(Clock c, int l) {
        if (now % 4 == 0) {
            draft.begin(ANNOUNCE, c.number, FOR_ALL, 0);
            draft.grade.copy(c.told);
            send(draft, c.number, l, 0);
        }
        if (now % 2 == 0) {
            draft.begin(SYNC, c.number, FOR_ALL, now);
            send(draft, c.number, l, 0);
            draft.begin(FOLLOW, c.number, FOR_ALL, now);
            draft.time = c.reading;
            send(draft, c.number, l, 0);
        }
    }

    private void sendAsSlave(Clock c, int l, int master) {
        if (now % 4 == 2 && c.measure.mayRequest(now)) {
            draft.begin(REQUEST, c.number, master, now);
            send(draft, c.number, l, 0);
            c.measure.openRequest(now, c.reading);
        }
    }

    private void send(Message m, int from, int l, int held) {
        if (!links[l].up || line.size >= MOST_MESSAGES) {
            lost++;
            return;
        }
        Message sent = line.rows[line.size];
        sent.copy(m);
        sent.link = l;
        sent.to = links[l].across(from);
        sent.comes = now + links[l].delayFrom(from) + held;
        line.size++;
    }

    /** Who is best, how far away, and who says so. */
    private static final class Grade {
        int priority = 0;
        int quality = 0;
        int best = 0;
        int steps = 0;
        int says = 0;

        void copy(Grade other) {
            priority = other.priority;
            quality = other.quality;
            best = other.best;
            steps = other.steps;
            says = other.says;
        }

        boolean isBetterThan(Grade other) {
            if (priority != other.priority) {
                return priority < other.priority;
            }
            if (quality != other.quality) {
                return quality < other.quality;
            }
            if (best != other.best) {
                return best < other.best;
            }
            if (steps != other.steps) {
                return steps < other.steps;
            }
            return says < other.says;
        }

        int part(int what) {
            switch (what) {
                case 0:
                    return priority;
                case 1:
                    return quality;
                case 2:
                    return best;
                case 3:
                    return steps;
                default:
                    return says;
            }
        }
    }

    /** One end of a link; at a transparent clock it is never used. */
    private static final class Port {
        final Grade heard = new Grade();
        boolean hasHeard = false;
        int heardAt = 0;
        int state = LISTENING;

        void close() {
            state = LISTENING;
            hasHeard = false;
        }

        void keep(Grade g, int tick) {
            heard.copy(g);
            hasHeard = true;
            heardAt = tick;
        }

        void forgetIfOld(int tick) {
            if (hasHeard && tick - heardAt >= HEARD_AGE) {
                hasHeard = false;
            }
        }

        boolean follows(int sender) {
            return state == SLAVE && hasHeard && heard.says == sender;
        }
    }

    /** Two clocks joined, with a delay each way. */
    private static final class Link {
        final Port portA = new Port();
        final Port portB = new Port();
        int a = 0;
        int b = 0;
        int there = 0;
        int back = 0;
        boolean up = true;

        void lay(int one, int other, int delayThere, int delayBack) {
            a = one;
            b = other;
            there = delayThere;
            back = delayBack;
        }

        boolean joins(int c) {
            return c == a || c == b;
        }

        Port portAt(int c) {
            return c == a ? portA : portB;
        }

        int across(int c) {
            return c == a ? b : a;
        }

        int delayFrom(int c) {
            return c == a ? there : back;
        }
    }

    /** What a clock measures of the one that it follows. */
    private static final class Measure {
        boolean hasMean = false;
        float mean = 0.0f;
        float sum = 0.0f;
        boolean requestOpen = false;
        int requestNumber = 0;
        long sent = 0L;
        boolean syncOpen = false;
        int syncNumber = 0;
        long syncReading = 0L;
        long syncCorrection = 0L;
        boolean hasLag = false;
        long lag = 0L;

        void forget() {
            hasMean = false;
            hasLag = false;
            requestOpen = false;
            syncOpen = false;
            sum = 0.0f;
        }

        // A request's number is the tick in which it was sent, so its age needs no field of its own.
        boolean mayRequest(int tick) {
            return !requestOpen || tick - requestNumber >= REQUEST_AGE;
        }

        void openRequest(int number, long reading) {
            requestNumber = number;
            sent = reading;
            requestOpen = true;
        }

        void closeRequest(int number, long time, long correction) {
            if (!requestOpen || requestNumber != number) {
                return;
            }
            requestOpen = false;
            if (hasLag) {
                takeSample((float) ((lag + (time - sent - correction)) / 2L));
            }
        }

        void takeSample(float sample) {
            mean = hasMean ? mean + (sample - mean) * 0.25f : sample;
            hasMean = true;
        }

        void openSync(int number, long reading, long correction) {
            syncNumber = number;
            syncReading = reading;
            syncCorrection = correction;
            syncOpen = true;
        }

        boolean closeSync(int number, long time, long correction) {
            if (!syncOpen || syncNumber != number) {
                return false;
            }
            syncOpen = false;
            lag = syncReading - time - syncCorrection - correction;
            hasLag = true;
            return true;
        }
    }

    /** A clock; what it announces is B while it has a slave, else its own grade. */
    private static final class Clock {
        final int number;
        final Grade own = new Grade();
        final Grade told = new Grade();
        final Measure measure = new Measure();
        int kind = ORDINARY;
        int drift = 0;
        int adjust = 0;
        int slave = NONE;
        int slaveSays = NONE;
        boolean up = true;
        long reading = 0L;

        Clock(int n) {
            number = n;
            own.best = n;
            own.says = n;
            told.copy(own);
        }

        void take(int priority, int quality, int newDrift) {
            own.priority = priority;
            own.quality = quality;
            drift = newDrift;
        }

        boolean takesPart() {
            return up && kind != TRANSPARENT;
        }

        void restart() {
            told.copy(own);
            slave = NONE;
            measure.forget();
            adjust = 0;
        }

        void grow() {
            reading += TICK_LENGTH + drift + adjust;
        }

        void steer() {
            float e = (float) measure.lag - measure.mean;
            if (e > 5000.0f || e < -5000.0f) {
                jump(e);
            } else {
                lean(e);
            }
        }

        void jump(float e) {
            reading -= (long) e;
            measure.sum = 0.0f;
            adjust = 0;
            measure.hasLag = false;
        }

        void lean(float e) {
            float grown = measure.sum + e * 0.0625f;
            grown = grown > 200.0f ? 200.0f : grown;
            measure.sum = grown < -200.0f ? -200.0f : grown;
            int wanted = -(int) (e * 0.25f + measure.sum);
            adjust = Math.max(-MOST_ADJUST, Math.min(MOST_ADJUST, wanted));
        }
    }

    /** What goes over a link. */
    private static final class Message {
        final Grade grade = new Grade();
        int type = 0;
        int sender = 0;
        int receiver = 0;
        int number = 0;
        int hops = 0;
        int link = 0;
        int to = 0;
        int comes = 0;
        long time = 0L;
        long correction = 0L;

        void begin(int newType, int from, int forWhom, int newNumber) {
            type = newType;
            sender = from;
            receiver = forWhom;
            number = newNumber;
            hops = 0;
            time = 0L;
            correction = 0L;
        }

        void copy(Message other) {
            grade.copy(other.grade);
            type = other.type;
            sender = other.sender;
            receiver = other.receiver;
            number = other.number;
            hops = other.hops;
            link = other.link;
            to = other.to;
            comes = other.comes;
            time = other.time;
            correction = other.correction;
        }

        int part(int what) {
            switch (what) {
                case 0:
                    return type;
                case 1:
                    return sender;
                case 2:
                    return receiver;
                case 3:
                    return number;
                case 4:
                    return hops;
                case 5:
                    return link;
                case 6:
                    return to;
                default:
                    return comes;
            }
        }
    }

    /** The messages on links, in the order in which they were sent. */
    private static final class Line {
        final Message[] rows = new Message[MOST_MESSAGES];
        int size = 0;

        Line() {
            for (int i = 0; i < MOST_MESSAGES; i++) {
                rows[i] = new Message();
            }
        }

        boolean holds(int i) {
            return i >= 0 && i < size;
        }

        // The dropped row goes behind the others, to be used again.
        void drop(int i) {
            if (!holds(i)) {
                return;
            }
            Message dropped = rows[i];
            for (int k = i; k < size - 1; k++) {
                rows[k] = rows[k + 1];
            }
            rows[size - 1] = dropped;
            size--;
        }

        int dropAllOn(int l) {
            int before = size;
            for (int i = before - 1; i >= 0; i--) {
                if (rows[i].link == l) {
                    drop(i);
                }
            }
            return before - size;
        }
    }
}
