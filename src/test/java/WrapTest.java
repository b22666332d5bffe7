import java.math.BigInteger;

/** The sentences that name a wrap-around, before it, at it and after it. */
public final class WrapTest {
    private static final Checks CHECKS = new Checks();
    private static final int GREETING = Scene.GREETING;
    private static final int DATA = Scene.DATA;
    private static final int PARTING = Scene.PARTING;
    private static final int LEAST = Integer.MIN_VALUE;
    private static final int GREATEST = Integer.MAX_VALUE;
    private static final int ADDITIONS = 32;
    private static final BigInteger TWO_TO_64 = BigInteger.ONE.shiftLeft(64);
    /** The halves of a header other than the checksum and the source, as the tests below have them. */
    private static final int REST = 0x4500 + 0x28 + 0x4006 + 0x0A00 + 0x0001;

    public static void main(String[] args) {
        sumsAbove65535();
        rightSums();
        checksumsOnTheWire();
        keptAsItWas();
        stampsAfter65535();
        stampsOfServers();
        productsWrap();
        nextNumberAfterAGreeting();
        nextNumberAfterData();
        digestAdditions();
        listsWrap();
        CHECKS.end();
    }

    /** The sum of numbers that add up to the total. */
    private static int sumOf(int total) {
        return total == 0 ? 0 : (total - 1) % 65535 + 1;
    }

    private static void sumsAbove65535() {
        CHECKS.sentence("A HEADER: as long as that is more than 65535, its lowest 16 bits and the number above are added");
        PacketSpreader x = new PacketSpreader(1, 1, 7, 1);
        for (int times = 0; times <= 9; times++) {
            for (int off = -2; off <= 2; off++) {
                dueChecksum(x, times * 65535 + off);
                dueChecksum(x, times * 65536 + off);
            }
        }
    }

    private static void dueChecksum(PacketSpreader x, int total) {
        if (total < 0 || total > 9 * 65535) {
            return;
        }
        int[] halves = new int[10];
        int left = total;
        for (int i = 0; i < 10; i++) {
            // The sixth half is the checksum itself.
            halves[i] = i == 5 ? 0 : Math.min(left, 65535);
            left -= halves[i];
        }
        int[] w = new int[5];
        for (int i = 0; i < 5; i++) {
            w[i] = halves[2 * i] << 16 | halves[2 * i + 1];
        }
        CHECKS.due("checksum of halves that add up to " + total,
                x.checksum(w[0], w[1], w[2], w[3], w[4]), 65535 - sumOf(total));
    }

    /** A source whose halves make those of the header, but for the checksum, add up to the total. */
    private static int sourceFor(int total) {
        int upper = Math.min(total - REST, 65535);
        return upper << 16 | total - REST - upper;
    }

    private static void rightSums() {
        CHECKS.sentence("A HEADER: it is RIGHT when the sum of all ten halves of the header is 65535");
        int[] totals = {65533, 65534, 65535, 65536, 65537, 131069, 131070, 131071, 131072};
        int[] checksums = {0, 1, 2, 32767, 32768, 65532, 65533, 65534, 65535};
        for (int total : totals) {
            for (int checksum : checksums) {
                PacketSpreader x = new PacketSpreader(1, 1, 7, 1);
                int verdict = x.header(0x45000028, 0, 0x40060000 | checksum, sourceFor(total), Scene.SERVICE);
                CHECKS.due("header with halves of " + total + " and the checksum " + checksum, verdict,
                        sumOf(total + checksum) == 65535 ? 0 : 2);
            }
        }
    }

    private static void checksumsOnTheWire() {
        CHECKS.sentence("8: each checksum is as the method checksum says");
        int[][] known = {{65534, 1}, {65535, 0}, {65536, 65534}, {131069, 1}, {131070, 0}, {131071, 65534}};
        for (int[] pair : known) {
            PacketSpreader x = new PacketSpreader(1, 1, 7, 1);
            Scene.offer(x, sourceFor(pair[0]));
            x.segment(1, 0, GREETING);
            CHECKS.due("wire(13) with halves of " + pair[0], x.wire(13), 0x40060000 + pair[1]);
        }
        PacketSpreader x = new PacketSpreader(4, 8, 101, 1);
        Scene.offer(x, Scene.CLIENT);
        for (int ports = 1; ports <= 20; ports++) {
            x.segment(ports, 0, GREETING);
            int w2 = x.wire(2);
            CHECKS.due("wire(2)", w2 & 0xFFFF,
                    x.checksum(x.wire(0), x.wire(1), w2, x.wire(3), x.wire(4)));
            CHECKS.due("wire(2), upper half", w2 >>> 16, 0x402F);
        }
    }

    private static void keptAsItWas() {
        CHECKS.sentence("8: the kept header as it was when the segment was sent");
        for (int checksum : new int[] {0, 65535}) {
            PacketSpreader x = new PacketSpreader(1, 1, 7, 1);
            int[] words = {0x45000028, 0x4000, 0x40060000 | checksum, sourceFor(65535 - 0x4000), Scene.SERVICE};
            CHECKS.due("header(..)", x.header(words[0], words[1], words[2], words[3], words[4]), 0);
            x.segment(1, 0, GREETING);
            Scene.offer(x, 0x45000029, 0x10000, 0x41060000, 77, Scene.SERVICE);
            for (int k = 0; k < 5; k++) {
                CHECKS.due("wire(" + (6 + k) + ") with the checksum " + checksum, x.wire(6 + k), words[k]);
            }
        }
    }

    private static void stampsAfter65535() {
        CHECKS.sentence("8: a balancer's stamp is 65530 for the first, each later one is one more, and 0 after 65535");
        PacketSpreader x = Scene.ready(2, 1, 7, 1);
        int one = Scene.portsTo(x, 0, 2, 1);
        int other = Scene.portsTo(x, 1, 2, 1);
        int[] stamps = {65530, 65531, 65532, 65533, 65534, 65535, 0, 1, 2};
        int[] kinds = {GREETING, DATA, PARTING, Scene.BREAK};
        for (int i = 0; i < stamps.length; i++) {
            x.segment(one, 0, kinds[i % 4]);
            CHECKS.due("stamp of segment " + (i + 1), x.wire(1) >>> 16, stamps[i]);
            CHECKS.due("lower half of wire(1)", x.wire(1) & 0xFFFF, 0);
        }
        x.segment(other, 0, GREETING);
        CHECKS.due("the first stamp of the other", x.wire(1) >>> 16, 65530);
        x.segment(one, 0, GREETING);
        CHECKS.due("the next stamp of the one", x.wire(1) >>> 16, 3);
    }

    private static void stampsOfServers() {
        CHECKS.sentence("8: a server's is 0 for its first reply other than NOTHING; each later one is one more");
        PacketSpreader x = Scene.ready(1, 2, 7, 1);
        int one = Scene.portsFor(x, 0, 7, 1);
        int other = Scene.portsFor(x, 1, 7, 1);
        int[] kinds = {DATA, GREETING, Scene.BREAK, PARTING, GREETING};
        int[] replies = {PacketSpreader.REFUSAL, PacketSpreader.WELCOME, PacketSpreader.NOTHING,
            PacketSpreader.REFUSAL, PacketSpreader.WELCOME};
        int[] stamps = {0, 1, 0, 2, 3};
        for (int i = 0; i < kinds.length; i++) {
            x.segment(one, 0, kinds[i]);
            CHECKS.due("reply()", x.reply(), replies[i]);
            CHECKS.due("wire(12) of reply " + (i + 1), x.wire(12), stamps[i] * 65536);
        }
        x.segment(other, 0, GREETING);
        CHECKS.due("the first stamp of the other", x.wire(12), 0);
        CHECKS.due("the other's answer is there", x.wire(11), 0x45000028);
    }

    private static void productsWrap() {
        CHECKS.sentence("8: products wrap");
        PacketSpreader x = Scene.ready(1, 1, 7, 1);
        int[] words = {0xFFFA0000, 0xFFFB0000, 0xFFFC0000, 0xFFFD0000, 0xFFFE0000, 0xFFFF0000, 0, 0x10000};
        for (int word : words) {
            x.segment(1, 0, GREETING);
            CHECKS.due("wire(1)", x.wire(1), word);
        }
    }

    private static void dueReply(PacketSpreader x, int sequence, int flags, int reply) {
        String call = "segment(1, " + sequence + ", " + flags + ")";
        CHECKS.due(call, x.segment(1, sequence, flags), 0);
        CHECKS.due("reply() after " + call, x.reply(), reply);
    }

    private static void nextNumberAfterAGreeting() {
        CHECKS.sentence("SERVERS: with sequence + 1 (which wraps) as its next number");
        int[][] pairs = {{GREATEST - 1, GREATEST}, {GREATEST, LEAST}, {LEAST, LEAST + 1}, {-2, -1}, {-1, 0}, {0, 1},
            {65535, 65536}};
        for (int[] pair : pairs) {
            for (int flags : new int[] {DATA, PARTING}) {
                PacketSpreader x = Scene.ready(1, 1, 7, 1);
                dueReply(x, pair[0], GREETING, PacketSpreader.WELCOME);
                dueReply(x, pair[0], flags, PacketSpreader.AGAIN);
                dueReply(x, pair[1] + 1, flags, PacketSpreader.AGAIN);
                dueReply(x, pair[1], flags, flags == DATA ? PacketSpreader.TAKEN : PacketSpreader.FAREWELL);
            }
        }
    }

    private static void nextNumberAfterData() {
        CHECKS.sentence("SERVERS: DATA makes the next number one more (which wraps)");
        int[][] runs = {{GREATEST - 2, GREATEST - 1, GREATEST}, {GREATEST - 1, GREATEST, LEAST},
            {GREATEST, LEAST, LEAST + 1}, {-3, -2, -1}, {-2, -1, 0}, {-1, 0, 1}, {65534, 65535, 65536}};
        for (int[] run : runs) {
            for (int flags : new int[] {DATA, PARTING}) {
                PacketSpreader x = Scene.ready(1, 1, 7, 1);
                dueReply(x, run[0], GREETING, PacketSpreader.WELCOME);
                dueReply(x, run[1], DATA, PacketSpreader.TAKEN);
                dueReply(x, run[1], flags, PacketSpreader.AGAIN);
                dueReply(x, run[2], flags, flags == DATA ? PacketSpreader.TAKEN : PacketSpreader.FAREWELL);
            }
        }
    }

    private static void digestAdditions() {
        CHECKS.sentence("DIGEST: all are longs, additions wrap");
        // The last one, as a source, keeps the fourth addition from wrapping, which is rare.
        int[] numbers = {0, 1, -1, LEAST, GREATEST, 0x0A000001, 0xE8EDF1F2};
        boolean[] wrapped = new boolean[ADDITIONS];
        boolean[] whole = new boolean[ADDITIONS];
        for (int key : numbers) {
            PacketSpreader x = new PacketSpreader(1, 1, 7, key);
            for (int source : numbers) {
                for (int ports : numbers) {
                    CHECKS.due("digest(" + source + ", " + ports + ") under " + key, x.digest(source, ports),
                            digest(key, (long) source << 32 | ports & 0xFFFFFFFFL, wrapped, whole));
                }
            }
        }
        for (int i = 0; i < ADDITIONS; i++) {
            CHECKS.due("addition " + i + " wrapped at times", wrapped[i], true);
            CHECKS.due("addition " + i + " did not at others", whole[i], true);
        }
    }

    /** The digest with the additions written out, and which of them went beyond 64 bits. */
    private static long digest(int key, long x, boolean[] wrapped, boolean[] whole) {
        long k1 = key ^ 0x0f0e0d0c0b0a0908L;
        long[] v = {key ^ 0x736f6d6570736575L, k1 ^ 0x646f72616e646f6dL,
            key ^ 0x6c7967656e657261L, k1 ^ 0x7465646279746573L};
        long[] taken = {x, 0x0800000000000000L};
        for (int round = 0; round < 8; round++) {
            if (round == 0 || round == 2) {
                v[3] ^= taken[round / 2];
            }
            if (round == 4) {
                v[2] ^= 255;
            }
            add(v, 0, 1, 13, 4 * round, wrapped, whole);
            v[0] = Long.rotateLeft(v[0], 32);
            add(v, 2, 3, 16, 4 * round + 1, wrapped, whole);
            add(v, 0, 3, 21, 4 * round + 2, wrapped, whole);
            add(v, 2, 1, 17, 4 * round + 3, wrapped, whole);
            v[2] = Long.rotateLeft(v[2], 32);
            if (round == 1 || round == 3) {
                v[0] ^= taken[round / 2];
            }
        }
        return v[0] ^ v[1] ^ v[2] ^ v[3];
    }

    private static void add(long[] v, int to, int from, int turn, int i, boolean[] wrapped, boolean[] whole) {
        BigInteger sum = unsigned(v[to]).add(unsigned(v[from]));
        wrapped[i] |= sum.compareTo(TWO_TO_64) >= 0;
        whole[i] |= sum.compareTo(TWO_TO_64) < 0;
        v[to] = sum.mod(TWO_TO_64).longValue();
        v[from] = Long.rotateLeft(v[from], turn) ^ v[to];
    }

    private static BigInteger unsigned(long x) {
        return new BigInteger(Long.toUnsignedString(x));
    }

    private static void listsWrap() {
        CHECKS.sentence("FILLING A TABLE: server k's list of places is (f + j * s) mod M for j = 0 .. M - 1");
        for (int m : new int[] {7, 101}) {
            for (int key = -2; key <= 2; key++) {
                PacketSpreader x = new PacketSpreader(1, 2, m, key);
                int[] table = Reference.table(key, m, java.util.List.of(0, 1));
                for (int p = 0; p < m; p++) {
                    CHECKS.due("under " + key + ", place(0, " + p + ")", x.place(0, p), table[p]);
                }
            }
        }
    }
}
