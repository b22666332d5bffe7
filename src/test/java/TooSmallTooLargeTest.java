/** The sentences that name a number which is too small or too large. */
public final class TooSmallTooLargeTest {
    private static final Checks CHECKS = new Checks();
    private static final int NONE = PacketSpreader.NONE;
    private static final int LEAST = Integer.MIN_VALUE;
    private static final int GREATEST = Integer.MAX_VALUE;
    private static final int[] PRIMES = {
        7, 11, 13, 17, 19, 23, 29, 31, 37, 41, 43, 47, 53, 59, 61, 67, 71, 73, 79, 83, 89, 97, 101};
    private static final int W0 = 0x45000028;
    private static final int W1 = 0x10000;
    private static final int W2 = 0x40060000;

    public static void main(String[] args) {
        balancersOfANewObject();
        serversOfANewObject();
        sizeOfANewObject();
        leastPrime();
        keyAsALong();
        lowerHalfOfW2DoesNotMatter();
        highestBitsOfW0();
        checksumOfAHeader();
        lengthInAHeader();
        lowestBitsOfW1();
        highestBitsOfW2();
        nextBitsOfW2();
        addressInAHeader();
        kindsOfSegments();
        wordsOfTheWire();
        ticks();
        for (int[] made : new int[][] {{1, 1, 7}, {2, 3, 13}, {3, 2, 7}, {4, 8, 101}}) {
            places(made[0], made[1], made[2]);
            shares(made[0], made[1], made[2]);
            moves(made[0], made[1], made[2]);
            lives(made[0], made[1], made[2]);
            powers(made[0], made[1], made[2]);
            paths(made[0], made[1], made[2]);
            probes(made[0], made[1], made[2]);
            holdings(made[0], made[1], made[2]);
            entries(made[0], made[1], made[2]);
            loads(made[0], made[1], made[2]);
        }
        CHECKS.end();
    }

    private static void balancersOfANewObject() {
        CHECKS.sentence("1: B is balancers, but at least 1 and at most 4");
        int[][] given = {{LEAST, 1}, {-1, 1}, {0, 1}, {1, 1}, {2, 2}, {3, 3}, {4, 4}, {5, 4}, {GREATEST, 4}};
        for (int[] pair : given) {
            PacketSpreader x = new PacketSpreader(pair[0], 2, 7, 1);
            for (int b = -1; b <= 6; b++) {
                CHECKS.due("of " + pair[0] + " balancers, moved(" + b + ")", x.moved(b),
                        b >= 0 && b < pair[1] ? 0 : NONE);
            }
        }
    }

    private static void serversOfANewObject() {
        CHECKS.sentence("1: S is servers, but at least 1 and at most 8");
        int[][] given = {{LEAST, 1}, {-1, 1}, {0, 1}, {1, 1}, {2, 2}, {7, 7}, {8, 8}, {9, 8}, {GREATEST, 8}};
        for (int[] pair : given) {
            PacketSpreader x = new PacketSpreader(2, pair[0], 7, 1);
            for (int k = -1; k <= 10; k++) {
                CHECKS.due("of " + pair[0] + " servers, held(1, " + k + ")", x.held(1, k),
                        k >= 0 && k < pair[1] ? 0 : NONE);
            }
        }
    }

    private static void duePlaces(int size, int m) {
        PacketSpreader x = new PacketSpreader(1, 1, size, 1);
        for (int p = -1; p <= 130; p++) {
            CHECKS.due("of size " + size + ", place(0, " + p + ")", x.place(0, p),
                    p >= 0 && p < m ? 0 : NONE);
        }
    }

    private static void sizeOfANewObject() {
        CHECKS.sentence("1: size below 7 counts as 7 and above 101 as 101");
        int[][] given = {{LEAST, 7}, {-1, 7}, {0, 7}, {1, 7}, {2, 7}, {5, 7}, {6, 7}, {7, 7}, {8, 11},
            {100, 101}, {101, 101}, {102, 101}, {103, 101}, {GREATEST, 101}};
        for (int[] pair : given) {
            duePlaces(pair[0], pair[1]);
        }
    }

    private static void leastPrime() {
        CHECKS.sentence("1: M is the least prime number that is not below size");
        for (int i = 1; i < PRIMES.length; i++) {
            duePlaces(PRIMES[i - 1] + 1, PRIMES[i]);
            duePlaces(PRIMES[i] - 1, PRIMES[i]);
            duePlaces(PRIMES[i], PRIMES[i]);
        }
    }

    private static void keyAsALong() {
        CHECKS.sentence("1: k0 is key (as a long of the same value)");
        for (int key : new int[] {LEAST, LEAST + 1, -1, 0, 1, GREATEST}) {
            long k0 = Long.parseLong(Integer.toString(key));
            PacketSpreader x = new PacketSpreader(1, 1, 7, key);
            CHECKS.due("digest(1, 2) under " + key, x.digest(1, 2),
                    Reference.digest(0x100000002L, k0, k0 ^ 0x0f0e0d0c0b0a0908L));
        }
    }

    private static void lowerHalfOfW2DoesNotMatter() {
        CHECKS.sentence("2: what the lower half of the argument w2 is does not matter");
        PacketSpreader x = new PacketSpreader(1, 1, 7, 1);
        for (int lower : new int[] {0, 1, 0x7FFF, 0x8000, 0xFFFE, 0xFFFF}) {
            CHECKS.due("checksum with " + lower, x.checksum(W0, W1, W2 + lower, 1, Scene.SERVICE),
                    65535 - (0x4500 + 0x28 + 1 + 0x4006 + 1 + 0x0A00 + 1));
            CHECKS.due("checksum of 0 with " + lower, x.checksum(0, 0, lower, 0, 0), 65535);
            CHECKS.due("checksum of -1 with " + lower, x.checksum(-1, -1, 0xFFFF0000 + lower, -1, -1), 0);
        }
    }

    /** The header is offered with the right checksum; a header that is kept shows on the wire. */
    private static void dueVerdict(int w0, int w1, int w2, int w4, int verdict) {
        PacketSpreader x = Scene.ready(1, 1, 7, 1);
        CHECKS.due(String.format("header(%x, %x, %x, .., %x)", w0, w1, w2, w4),
                Scene.offer(x, w0, w1, w2, 77, w4), verdict);
        x.segment(1, 0, Scene.GREETING);
        CHECKS.due("source that is kept then", x.wire(9), verdict == 0 ? 77 : Scene.CLIENT);
    }

    private static void highestBitsOfW0() {
        CHECKS.sentence("3: 1 the highest 8 bits of w0 are not 0x45");
        for (int bits = 0; bits < 256; bits++) {
            dueVerdict(bits << 24 | 0x28, W1, W2, Scene.SERVICE, bits == 0x45 ? 0 : 1);
        }
        dueVerdict(0x44FF0028, W1, W2, Scene.SERVICE, 1);
        dueVerdict(0x45FF0028, W1, W2, Scene.SERVICE, 0);
    }

    private static void checksumOfAHeader() {
        CHECKS.sentence("3: 2 the checksum is not right");
        int right = Reference.withChecksum(W0, W1, W2, 9, Scene.SERVICE);
        for (int off : new int[] {-256, -1, 0, 1, 256}) {
            PacketSpreader x = new PacketSpreader(1, 1, 7, 1);
            CHECKS.due("a checksum off by " + off, x.header(W0, W1, right + off, 9, Scene.SERVICE),
                    off == 0 ? 0 : 2);
            CHECKS.due("a segment then", x.segment(1, 0, Scene.GREETING), off == 0 ? 0 : -2);
        }
    }

    private static void lengthInAHeader() {
        CHECKS.sentence("3: 3 the lower half of w0 is not 40 .. 1480");
        for (int length : new int[] {40, 41, 1479, 1480}) {
            dueVerdict(0x45000000 + length, W1, W2, Scene.SERVICE, 0);
        }
        for (int length : new int[] {0, 1, 39, 1481, 0x7FFF, 0x8000, 0x8028, 0xFFFF}) {
            dueVerdict(0x45000000 + length, W1, W2, Scene.SERVICE, 3);
        }
    }

    private static void lowestBitsOfW1() {
        CHECKS.sentence("3: 4 one of the lowest 14 bits of w1 is not 0");
        for (int bit = 0; bit < 32; bit++) {
            dueVerdict(W0, 1 << bit, W2, Scene.SERVICE, bit < 14 ? 4 : 0);
        }
        dueVerdict(W0, 0, W2, Scene.SERVICE, 0);
        dueVerdict(W0, 0x3FFF, W2, Scene.SERVICE, 4);
        dueVerdict(W0, 0xFFFFC000, W2, Scene.SERVICE, 0);
        dueVerdict(W0, 0xFFFFE000, W2, Scene.SERVICE, 4);
    }

    private static void highestBitsOfW2() {
        CHECKS.sentence("3: 5 the highest 8 bits of w2 are 0");
        for (int bits = 0; bits < 256; bits++) {
            dueVerdict(W0, W1, bits << 24 | 0x60000, Scene.SERVICE, bits == 0 ? 5 : 0);
            dueVerdict(W0, W1, bits << 24 | 0x860000, Scene.SERVICE, bits == 0 ? 5 : 6);
        }
    }

    private static void nextBitsOfW2() {
        CHECKS.sentence("3: 6 the 8 bits below these are not 6");
        for (int bits = 0; bits < 256; bits++) {
            dueVerdict(W0, W1, 0x40000000 | bits << 16, Scene.SERVICE, bits == 6 ? 0 : 6);
        }
    }

    private static void addressInAHeader() {
        CHECKS.sentence("3: 7 w4 is not the address of the service");
        dueVerdict(W0, W1, W2, 0x0A000001, 0);
        for (int w4 : new int[] {0x0A000000, 0x0A000002, 0x0A000100, 0x0A000200, 0, -1, LEAST, 0x8A000001}) {
            dueVerdict(W0, W1, W2, w4, 7);
        }
    }

    private static void kindsOfSegments() {
        CHECKS.sentence("4: -4 flags is none of the four kinds");
        for (int kind : new int[] {2, 16, 17, 4}) {
            CHECKS.due("flags " + kind, Scene.ready(1, 1, 7, 1).segment(1, 0, kind), 0);
        }
        int[] none = {LEAST, -17, -16, -4, -2, -1, 0, 1, 3, 5, 15, 18, 20, 21, 0x102, 0x10010, GREATEST};
        for (int flags : none) {
            CHECKS.due("flags " + flags, Scene.ready(1, 1, 7, 1).segment(1, 0, flags), -4);
        }
    }

    private static void wordsOfTheWire() {
        CHECKS.sentence("8: 0 when k is not 0 .. 15");
        PacketSpreader x = Scene.ready(1, 1, 7, 1);
        x.segment(1, 0, Scene.GREETING);
        CHECKS.due("wire(0)", x.wire(0), 0x45000000 + 24 + 40);
        CHECKS.due("wire(15)", x.wire(15), Scene.CLIENT);
        for (int k : Scene.beside(16)) {
            CHECKS.due("wire(" + k + ")", x.wire(k), 0);
        }
    }

    private static void ticks() {
        CHECKS.sentence("18: true; false when n is not 0 .. 1000");
        PacketSpreader x = new PacketSpreader(1, 1, 7, 1);
        for (int n : new int[] {0, 1, 999, 1000}) {
            CHECKS.due("tick(" + n + ")", x.tick(n), true);
        }
        for (int n : new int[] {LEAST, -1000, -1, 1001, 65536, GREATEST}) {
            CHECKS.due("tick(" + n + ")", x.tick(n), false);
        }
    }

    private static String call(String name, int... numbers) {
        StringBuilder text = new StringBuilder(name).append('(');
        for (int n : numbers) {
            text.append(text.length() == name.length() + 1 ? "" : ", ").append(n);
        }
        return text.append(')').toString();
    }

    private static void places(int balancers, int servers, int m) {
        CHECKS.sentence("10: NONE when there is no such balancer or place");
        PacketSpreader x = new PacketSpreader(balancers, servers, m, 1);
        for (int b : Scene.bounds(balancers)) {
            for (int p : Scene.bounds(m)) {
                CHECKS.due(call("place", b, p) + " is a server", x.place(b, p) >= 0, true);
            }
            for (int p : Scene.beside(m)) {
                CHECKS.due(call("place", b, p), x.place(b, p), NONE);
            }
        }
        for (int b : Scene.beside(balancers)) {
            CHECKS.due(call("place", b, 0), x.place(b, 0), NONE);
            CHECKS.due(call("place", b, m), x.place(b, m), NONE);
        }
    }

    private static void shares(int balancers, int servers, int m) {
        CHECKS.sentence("11: NONE when there is no such balancer or server");
        PacketSpreader x = new PacketSpreader(balancers, servers, m, 1);
        for (int b : Scene.bounds(balancers)) {
            for (int k : Scene.bounds(servers)) {
                CHECKS.due(call("share", b, k), x.share(b, k), m / servers + (k < m % servers ? 1 : 0));
            }
            for (int k : Scene.beside(servers)) {
                CHECKS.due(call("share", b, k), x.share(b, k), NONE);
            }
        }
        for (int b : Scene.beside(balancers)) {
            CHECKS.due(call("share", b, 0), x.share(b, 0), NONE);
            CHECKS.due(call("share", b, b), x.share(b, b), NONE);
        }
    }

    private static void moves(int balancers, int servers, int m) {
        CHECKS.sentence("12: NONE when there is no such balancer");
        PacketSpreader x = new PacketSpreader(balancers, servers, m, 1);
        for (int b : Scene.bounds(balancers)) {
            CHECKS.due(call("moved", b), x.moved(b), 0);
        }
        for (int b : Scene.beside(balancers)) {
            CHECKS.due(call("moved", b), x.moved(b), NONE);
        }
    }

    private static void lives(int balancers, int servers, int m) {
        CHECKS.sentence("13: false also when there is no such balancer");
        PacketSpreader x = new PacketSpreader(balancers, servers, m, 1);
        for (int b : Scene.beside(balancers)) {
            CHECKS.due(call("live off", b), x.live(b, false), false);
            CHECKS.due(call("live on", b), x.live(b, true), false);
        }
        for (int b = 0; b < balancers; b++) {
            CHECKS.due(call("live off", b), x.live(b, false), true);
            CHECKS.due(call("live on", b), x.live(b, true), true);
        }
    }

    private static void powers(int balancers, int servers, int m) {
        CHECKS.sentence("14: false also when there is no such server");
        PacketSpreader x = new PacketSpreader(balancers, servers, m, 1);
        for (int k : Scene.beside(servers)) {
            CHECKS.due(call("power off", k), x.power(k, false), false);
            CHECKS.due(call("power on", k), x.power(k, true), false);
        }
        for (int k = 0; k < servers; k++) {
            CHECKS.due(call("power off", k), x.power(k, false), true);
            CHECKS.due(call("power on", k), x.power(k, true), true);
        }
    }

    private static void paths(int balancers, int servers, int m) {
        CHECKS.sentence("15: false also when there is no such balancer or server");
        PacketSpreader x = new PacketSpreader(balancers, servers, m, 1);
        for (int b : Scene.beside(balancers)) {
            for (int k : Scene.bounds(servers)) {
                CHECKS.due(call("path cut", b, k), x.path(b, k, false), false);
                CHECKS.due(call("path whole", b, k), x.path(b, k, true), false);
            }
        }
        for (int k : Scene.beside(servers)) {
            for (int b : Scene.bounds(balancers)) {
                CHECKS.due(call("path cut", b, k), x.path(b, k, false), false);
                CHECKS.due(call("path whole", b, k), x.path(b, k, true), false);
            }
            CHECKS.due(call("path cut", k, k), x.path(k, k, false), false);
        }
        for (int b = 0; b < balancers; b++) {
            for (int k = 0; k < servers; k++) {
                CHECKS.due(call("path cut", b, k), x.path(b, k, false), true);
                CHECKS.due(call("path whole", b, k), x.path(b, k, true), true);
            }
        }
    }

    private static void probes(int balancers, int servers, int m) {
        CHECKS.sentence("16: NONE when there is no such balancer or it is not live");
        PacketSpreader x = new PacketSpreader(balancers, servers, m, 1);
        for (int b : Scene.beside(balancers)) {
            CHECKS.due(call("probe", b), x.probe(b), NONE);
        }
        for (int b = 0; b < balancers; b++) {
            CHECKS.due(call("probe", b), x.probe(b), 0);
            x.live(b, false);
            CHECKS.due(call("not live: probe", b), x.probe(b), NONE);
            x.live(b, true);
            CHECKS.due(call("live again: probe", b), x.probe(b), 0);
        }
    }

    private static void holdings(int balancers, int servers, int m) {
        CHECKS.sentence("17: NONE when there is no such balancer or server");
        PacketSpreader x = new PacketSpreader(balancers, servers, m, 1);
        for (int b : Scene.bounds(balancers)) {
            for (int k : Scene.bounds(servers)) {
                CHECKS.due(call("held", b, k), x.held(b, k), 0);
            }
            for (int k : Scene.beside(servers)) {
                CHECKS.due(call("held", b, k), x.held(b, k), NONE);
            }
        }
        for (int b : Scene.beside(balancers)) {
            CHECKS.due(call("held", b, 0), x.held(b, 0), NONE);
            CHECKS.due(call("held", b, b), x.held(b, b), NONE);
        }
    }

    private static void entries(int balancers, int servers, int m) {
        CHECKS.sentence("19: NONE when there is no such balancer");
        PacketSpreader x = Scene.ready(balancers, servers, m, 1);
        for (int b : Scene.bounds(balancers)) {
            int ports = Scene.portsTo(x, b, balancers, 1);
            int k = x.segment(ports, 0, Scene.GREETING);
            CHECKS.due(call("entry", b), x.entry(b, Scene.CLIENT, ports), k);
            for (int wrong : Scene.beside(balancers)) {
                CHECKS.due(call("entry", wrong), x.entry(wrong, Scene.CLIENT, ports), NONE);
            }
        }
    }

    private static void loads(int balancers, int servers, int m) {
        CHECKS.sentence("20: 0 when there is no such balancer, 0 when there is no such server");
        for (int b : Scene.bounds(balancers)) {
            PacketSpreader x = Scene.ready(balancers, servers, m, 1);
            int k = x.segment(Scene.portsTo(x, b, balancers, 1), 0, Scene.GREETING);
            CHECKS.due(call("load", b, k), x.load(b, k), 101);
            for (int wrong : Scene.beside(servers)) {
                CHECKS.due(call("load", b, wrong), x.load(b, wrong), 1);
            }
            for (int wrong : Scene.beside(balancers)) {
                CHECKS.due(call("load", wrong, k), x.load(wrong, k), 100);
                CHECKS.due(call("load", wrong, -1), x.load(wrong, -1), 0);
                CHECKS.due(call("load", wrong, servers), x.load(wrong, servers), 0);
            }
        }
    }
}
