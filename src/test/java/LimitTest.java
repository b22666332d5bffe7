/** The sentences that name a limit, when it is just met and when it is just passed. */
public final class LimitTest {
    private static final Checks CHECKS = new Checks();
    private static final int NONE = PacketSpreader.NONE;
    private static final int GREETING = Scene.GREETING;
    private static final int DATA = Scene.DATA;
    private static final int PARTING = Scene.PARTING;
    private static final int BREAK = Scene.BREAK;
    private static final int KEY = 2026;

    /** Under KEY, connections whose digest has just this upper half: the half, source, ports. */
    private static final int[][] UPPER = {
        {0x00000000, 0xC0A80002, 0xD1C95A1E}, {0x3FFFFFFF, 0xC0A80003, 0x1F4F9D89},
        {0x40000000, 0xC0A80002, 0x3F630000}, {0x55555555, 0xC0A80001, 0xDC69E617},
        {0x55555556, 0xC0A80003, 0x197F855B}, {0x7FFFFFFF, 0xC0A80001, 0xDC786F96},
        {0x80000000, 0xC0A80005, 0x70E998CC}, {0xAAAAAAAA, 0xC0A80001, 0xB8B23A76},
        {0xAAAAAAAB, 0xC0A80001, 0xC6A37557}, {0xBFFFFFFF, 0xC0A80001, 0x418B0F98},
        {0xC0000000, 0xC0A80001, 0x4C1045AC}, {0xFFFFFFFF, 0xC0A80001, 0xED8EACB2}};

    /** For each of UPPER, how many live ones are before the balancer with 1, 2, 3 and 4 live ones. */
    private static final int[][] BEFORE = {
        {0, 0, 0, 0}, {0, 0, 0, 0}, {0, 0, 0, 1}, {0, 0, 0, 1}, {0, 0, 1, 1}, {0, 0, 1, 1},
        {0, 1, 1, 2}, {0, 1, 1, 2}, {0, 1, 2, 2}, {0, 1, 2, 2}, {0, 1, 2, 3}, {0, 1, 2, 3}};

    /** Under KEY, connections whose digest has just this lower half: the half, source, ports. */
    private static final int[][] LOWER = {
        {0x00000000, 0xC0A80001, 0x37AFDDF2}, {0x00000001, 0xC0A80001, 0x7F98B7E5},
        {0x7FFFFFFF, 0xC0A80001, 0xA419FCAB}, {0x80000000, 0xC0A80001, 0xAD7009A6},
        {0xFFFFFFFF, 0xC0A80001, 0x91A7975D}};

    public static void main(String[] args) {
        routerRoundsDown();
        placeOfAConnection();
        firstAndLastPlace();
        firstAndStepOfAList();
        answersWhenOnAndWhole();
        reachesWhenOnAndWhole();
        threeMisses();
        threeAnswers();
        missesBrokenOff();
        answersBrokenOff();
        entriesForServersHeldDown();
        allHeldOtherwise();
        patience("OPENING", 4, GREETING);
        patience("OPEN", 16, DATA);
        patience("CLOSING", 2, PARTING);
        latestUse();
        phaseChanges();
        nextNumber();
        takenAtTheReply();
        lengthOnTheWire();
        addressesOnTheWire();
        CHECKS.end();
    }

    private static void routerRoundsDown() {
        CHECKS.sentence("THE ROUTER: upper half of h times n, divided by 2^32 and rounded down");
        for (int i = 0; i < UPPER.length; i++) {
            for (int mask = 1; mask < 16; mask++) {
                PacketSpreader x = new PacketSpreader(4, 1, 7, KEY);
                Scene.offer(x, UPPER[i][1]);
                CHECKS.due("upper half of the digest", x.digest(UPPER[i][1], UPPER[i][2]) >> 32, UPPER[i][0]);
                for (int b = 0; b < 4; b++) {
                    x.live(b, (mask >> b & 1) == 1);
                }
                x.segment(UPPER[i][2], 0, GREETING);
                CHECKS.due(String.format("carrier() with %x, live %x", UPPER[i][0], mask), x.carrier(),
                        liveOne(mask, BEFORE[i][Integer.bitCount(mask) - 1]));
            }
        }
    }

    /** The number of the balancer of the mask that has this many of the mask before it. */
    private static int liveOne(int mask, int before) {
        int left = mask;
        for (int i = 0; i < before; i++) {
            left &= left - 1;
        }
        return Integer.numberOfTrailingZeros(left);
    }

    private static void placeOfAConnection() {
        CHECKS.sentence("FILLING A TABLE: the place of a connection is the lower half of h mod M");
        for (int[] known : LOWER) {
            for (int m : new int[] {7, 11, 13, 47, 97, 101}) {
                PacketSpreader x = new PacketSpreader(1, 8, m, KEY);
                Scene.offer(x, known[1]);
                CHECKS.due("lower half of the digest", (int) x.digest(known[1], known[2]), known[0]);
                int p = Integer.remainderUnsigned(known[0], m);
                CHECKS.due(String.format("server with %x of %d places", known[0], m),
                        x.segment(known[2], 0, DATA), x.place(0, p));
            }
        }
    }

    private static void firstAndLastPlace() {
        CHECKS.sentence("NUMBERS: a table of M places 0 .. M - 1 (a connection at the first, at the last)");
        for (int m : new int[] {7, 101}) {
            for (int p : Scene.bounds(m)) {
                for (int key = 0; key < 20; key++) {
                    int ports = 0;
                    while (Long.remainderUnsigned(
                            Reference.connectionDigest(key, Scene.CLIENT, ports) & 0xFFFFFFFFL, m) != p) {
                        ports++;
                    }
                    PacketSpreader x = Scene.ready(1, 8, m, key);
                    CHECKS.due("server of place " + p, x.segment(ports, 0, DATA), x.place(0, p));
                }
            }
        }
    }

    private static void firstAndStepOfAList() {
        CHECKS.sentence("FILLING A TABLE: f is the upper half of g mod M, s is 1 + the lower half of g mod (M - 1)");
        int m = 7;
        int met = 0;
        for (int key = 0; met != 15; key++) {
            long g = Reference.keyedDigest(key, 1);
            int f = (int) ((g >>> 32) % m);
            int s = (int) (1 + (g & 0xFFFFFFFFL) % (m - 1));
            int bounds = (f == 0 ? 1 : 0) | (f == m - 1 ? 2 : 0) | (s == 1 ? 4 : 0) | (s == m - 1 ? 8 : 0);
            if (bounds != 0) {
                met |= bounds;
                dueTwoServers(m, key);
            }
        }
    }

    private static void dueTwoServers(int m, int key) {
        PacketSpreader x = new PacketSpreader(1, 2, m, key);
        int[] table = Reference.table(key, m, java.util.List.of(0, 1));
        for (int p = 0; p < m; p++) {
            CHECKS.due("under " + key + ", place(0, " + p + ")", x.place(0, p), table[p]);
        }
    }

    private static void answersWhenOnAndWhole() {
        CHECKS.sentence("HOLDING UP: a server answers when it is on and the path between the two is whole");
        for (int way = 0; way < 4; way++) {
            PacketSpreader x = new PacketSpreader(2, 2, 7, 1);
            x.power(0, (way & 1) == 0);
            x.path(1, 0, (way & 2) == 0);
            x.probe(0);
            x.probe(1);
            CHECKS.due("misses, way " + way, x.held(1, 0), way == 0 ? 0 : 1);
            CHECKS.due("misses of the other balancer, way " + way, x.held(0, 0), way % 2);
            CHECKS.due("misses of the other server, way " + way, x.held(1, 1), 0);
        }
    }

    private static void reachesWhenOnAndWhole() {
        CHECKS.sentence("The segment REACHES the server when it is on and the path is whole; otherwise NOTHING");
        for (int way = 0; way < 4; way++) {
            PacketSpreader x = Scene.ready(1, 1, 7, 1);
            x.segment(1, 0, GREETING);
            x.power(0, (way & 1) == 0);
            x.path(0, 0, (way & 2) == 0);
            CHECKS.due("is sent, way " + way, x.segment(2, 0, GREETING), 0);
            CHECKS.due("reply(), way " + way, x.reply(),
                    way == 0 ? PacketSpreader.WELCOME : PacketSpreader.NOTHING);
            CHECKS.due("entries, way " + way, x.load(0, NONE), 2);
            int sessions = way == 0 ? 200 : way == 2 ? 100 : 0;
            CHECKS.due("sessions, way " + way, x.load(NONE, 0), sessions);
        }
    }

    private static void dueProbe(PacketSpreader x, int changed, int held, int share) {
        CHECKS.due("probe(0)", x.probe(0), changed);
        CHECKS.due("held(0, 1)", x.held(0, 1), held);
        CHECKS.due("share(0, 1)", x.share(0, 1), share);
        CHECKS.due("held(0, 0)", x.held(0, 0), 0);
    }

    private static void threeMisses() {
        CHECKS.sentence("HOLDING UP: at 3 misses it is held down, with 0 answers");
        PacketSpreader x = new PacketSpreader(1, 2, 7, 1);
        dueProbe(x, 0, 0, 3);
        x.power(1, false);
        dueProbe(x, 0, 1, 3);
        dueProbe(x, 0, 2, 3);
        dueProbe(x, 1, 10, 0);
        dueProbe(x, 0, 10, 0);
    }

    private static void threeAnswers() {
        CHECKS.sentence("HOLDING UP: at 3 answers it is held up, with 0 misses");
        PacketSpreader x = new PacketSpreader(1, 2, 7, 1);
        x.power(1, false);
        Scene.probe(x, 0, 3);
        x.power(1, true);
        dueProbe(x, 0, 11, 0);
        dueProbe(x, 0, 12, 0);
        dueProbe(x, 1, 0, 3);
        dueProbe(x, 0, 0, 3);
        x.power(1, false);
        dueProbe(x, 0, 1, 3);
    }

    private static void missesBrokenOff() {
        CHECKS.sentence("HOLDING UP: a server held up that answers has 0 misses");
        for (int misses = 0; misses <= 2; misses++) {
            PacketSpreader x = new PacketSpreader(1, 2, 7, 1);
            x.path(0, 1, false);
            Scene.probe(x, 0, misses);
            x.path(0, 1, true);
            dueProbe(x, 0, 0, 3);
            x.path(0, 1, false);
            dueProbe(x, 0, 1, 3);
            dueProbe(x, 0, 2, 3);
            dueProbe(x, 1, 10, 0);
        }
    }

    private static void answersBrokenOff() {
        CHECKS.sentence("HOLDING UP: one (held down) that does not answer has 0 answers");
        for (int answers = 0; answers <= 2; answers++) {
            PacketSpreader x = new PacketSpreader(1, 2, 7, 1);
            x.path(0, 1, false);
            Scene.probe(x, 0, 3);
            x.path(0, 1, true);
            Scene.probe(x, 0, answers);
            x.path(0, 1, false);
            dueProbe(x, 0, 10, 0);
            x.path(0, 1, true);
            dueProbe(x, 0, 11, 0);
            dueProbe(x, 0, 12, 0);
            dueProbe(x, 1, 0, 3);
        }
    }

    private static void entriesForServersHeldDown() {
        CHECKS.sentence("HOLDING UP: the balancer's entries for servers that it holds down are removed");
        PacketSpreader x = Scene.ready(1, 2, 7, 1);
        int one = Scene.portsFor(x, 0, 7, 1);
        int other = Scene.portsFor(x, 1, 7, 1);
        x.segment(one, 0, GREETING);
        x.segment(other, 0, GREETING);
        x.path(0, 1, false);
        Scene.probe(x, 0, 2);
        CHECKS.due("entry at 2 misses", x.entry(0, Scene.CLIENT, other), 1);
        Scene.probe(x, 0, 1);
        CHECKS.due("entry at 3 misses", x.entry(0, Scene.CLIENT, other), NONE);
        CHECKS.due("entry for the server that is held up", x.entry(0, Scene.CLIENT, one), 0);
        x.path(0, 1, true);
        Scene.probe(x, 0, 3);
        CHECKS.due("entry at 3 answers", x.entry(0, Scene.CLIENT, other), NONE);
        CHECKS.due("entry for the other at 3 answers", x.entry(0, Scene.CLIENT, one), 0);
    }

    private static void allHeldOtherwise() {
        CHECKS.sentence("16: how many servers it holds otherwise than before (none, all)");
        PacketSpreader x = new PacketSpreader(1, 8, 7, 1);
        for (boolean on : new boolean[] {false, true}) {
            for (int k = 0; k < 8; k++) {
                x.power(k, on);
            }
            CHECKS.due("the first probe", x.probe(0), 0);
            CHECKS.due("the second probe", x.probe(0), 0);
            CHECKS.due("the third probe", x.probe(0), 8);
            CHECKS.due("moved(0)", x.moved(0), 7);
            CHECKS.due("the fourth probe", x.probe(0), 0);
        }
    }

    private static void patience(String phase, int patience, int flags) {
        CHECKS.sentence("ENTRIES: more than its phase's patience beyond its latest use; " + patience + " for " + phase);
        for (int start = 0; start <= 1000; start += 500) {
            for (int passed = 0; passed <= patience + 3; passed++) {
                atOnce(start, passed, flags, passed <= patience);
            }
            atOnce(start, 1000, flags, false);
            stepByStep(start, patience, flags);
        }
    }

    private static PacketSpreader inPhase(int start, int flags) {
        PacketSpreader x = Scene.ready(1, 1, 7, 1);
        x.tick(start);
        x.segment(1, 0, GREETING);
        x.segment(1, 1, flags);
        return x;
    }

    private static void dueEntry(PacketSpreader x, String when, boolean there) {
        CHECKS.due("entry " + when, x.entry(0, Scene.CLIENT, 1), there ? 0 : NONE);
        CHECKS.due("entries " + when, x.load(0, NONE), there ? 1 : 0);
    }

    private static void atOnce(int start, int passed, int flags, boolean there) {
        PacketSpreader x = inPhase(start, flags);
        x.tick(passed);
        dueEntry(x, "after " + passed + " at once", there);
    }

    private static void stepByStep(int start, int patience, int flags) {
        PacketSpreader x = inPhase(start, flags);
        for (int passed = 1; passed <= patience + 1; passed++) {
            x.tick(1);
            x.tick(0);
            dueEntry(x, "after " + passed + " ticks", passed <= patience);
        }
    }

    private static void latestUse() {
        CHECKS.sentence("A SEGMENT: with the present time as its latest use");
        int[][] kinds = {{GREETING, 4}, {DATA, 16}, {PARTING, 2}};
        for (int[] kind : kinds) {
            PacketSpreader x = inPhase(0, kind[0]);
            for (int use = 0; use < 3; use++) {
                x.tick(kind[1]);
                x.segment(1, 99, kind[0]);
            }
            x.tick(kind[1]);
            dueEntry(x, "at its patience after its latest use", true);
            x.tick(1);
            dueEntry(x, "beyond its patience after its latest use", false);
        }
    }

    private static void phaseChanges() {
        CHECKS.sentence("A SEGMENT: GREETING makes the entry OPENING, DATA OPEN, PARTING CLOSING; BREAK removes it");
        int[][] kinds = {{GREETING, 4}, {DATA, 16}, {PARTING, 2}};
        for (int[] from : kinds) {
            for (int[] to : kinds) {
                PacketSpreader x = inPhase(0, from[0]);
                x.tick(2);
                x.segment(1, 99, to[0]);
                x.tick(to[1]);
                dueEntry(x, "at its new patience " + to[1], true);
                x.tick(1);
                dueEntry(x, "beyond its new patience " + to[1], false);
            }
            PacketSpreader x = inPhase(0, from[0]);
            x.segment(1, 99, BREAK);
            dueEntry(x, "after a break", false);
        }
    }

    private static void dueReply(PacketSpreader x, int sequence, int flags, int reply, int taken) {
        String call = "segment(1, " + sequence + ", " + flags + ")";
        CHECKS.due(call, x.segment(1, sequence, flags), 0);
        CHECKS.due("reply() after " + call, x.reply(), reply);
        CHECKS.due("taken() after " + call, x.taken(), taken);
        CHECKS.due("sessions after " + call, x.load(NONE, 0), reply == PacketSpreader.FAREWELL ? 0 : 100);
    }

    private static void nextNumber() {
        CHECKS.sentence("SERVERS: when the sequence is not the next number, nothing changes and the reply is AGAIN");
        for (int last : new int[] {DATA, PARTING}) {
            PacketSpreader x = Scene.ready(1, 1, 7, 1);
            dueReply(x, 10, GREETING, PacketSpreader.WELCOME, 0);
            dueReply(x, 11, DATA, PacketSpreader.TAKEN, 1);
            for (int wrong : new int[] {11, 13, 10, 0, -12, Integer.MIN_VALUE, Integer.MAX_VALUE}) {
                dueReply(x, wrong, DATA, PacketSpreader.AGAIN, 1);
                dueReply(x, wrong, PARTING, PacketSpreader.AGAIN, 1);
            }
            boolean data = last == DATA;
            dueReply(x, 12, last, data ? PacketSpreader.TAKEN : PacketSpreader.FAREWELL, data ? 2 : 1);
        }
    }

    private static void takenAtTheReply() {
        CHECKS.sentence("7: that segment included, at the time of the reply (with FAREWELL: when it was removed)");
        for (int data = 0; data <= 3; data++) {
            PacketSpreader x = Scene.ready(1, 1, 7, 1);
            dueReply(x, 0, GREETING, PacketSpreader.WELCOME, 0);
            for (int i = 1; i <= data; i++) {
                dueReply(x, i, DATA, PacketSpreader.TAKEN, i);
            }
            dueReply(x, data, PARTING, PacketSpreader.AGAIN, data);
            dueReply(x, data + 1, PARTING, PacketSpreader.FAREWELL, data);
        }
    }

    private static void lengthOnTheWire() {
        CHECKS.sentence("8: 0x45000000 + 24 + the lower half of the kept header's w0");
        for (int length : new int[] {40, 41, 1479, 1480}) {
            for (int service : new int[] {0, 1, 0xFF}) {
                PacketSpreader x = new PacketSpreader(1, 1, 7, 1);
                int w0 = 0x45000000 + (service << 16) + length;
                Scene.offer(x, w0, 0, 0x40060000, 5, Scene.SERVICE);
                x.segment(1, 0, GREETING);
                CHECKS.due("wire(0) of " + length, x.wire(0), 0x45000018 + length);
                CHECKS.due("wire(6) of " + length, x.wire(6), w0);
            }
        }
    }

    private static void addressesOnTheWire() {
        CHECKS.sentence("NUMBERS: that of balancer b 0x0A000100 + b, that of server k 0x0A000200 + k");
        for (int b = 0; b < 4; b++) {
            PacketSpreader x = Scene.ready(4, 8, 7, 1);
            x.segment(Scene.portsTo(x, b, 4, 1), 0, GREETING);
            CHECKS.due("wire(3) through " + b, x.wire(3), 0x0A000100 + b);
        }
        for (int k = 0; k < 8; k++) {
            PacketSpreader x = Scene.ready(1, 8, 11, 1);
            x.segment(Scene.portsFor(x, k, 11, 1), 0, GREETING);
            CHECKS.due("wire(4) to " + k, x.wire(4), 0x0A000200 + k);
            CHECKS.due("wire(14) from " + k, x.wire(14), Scene.SERVICE);
        }
    }
}
