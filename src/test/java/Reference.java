import java.util.ArrayList;
import java.util.Arrays;
import java.util.List;

/** Parts of the document worked out anew, in the plainest way, for the tests to compare with. */
final class Reference {
    private Reference() {
    }

    static long digest(long x, long k0, long k1) {
        long[] v = {k0 ^ 0x736f6d6570736575L, k1 ^ 0x646f72616e646f6dL,
            k0 ^ 0x6c7967656e657261L, k1 ^ 0x7465646279746573L};
        for (long y : new long[] {x, 8L << 56}) {
            v[3] ^= y;
            rounds(v, 2);
            v[0] ^= y;
        }
        v[2] ^= 0xff;
        rounds(v, 4);
        return v[0] ^ v[1] ^ v[2] ^ v[3];
    }

    static long keyedDigest(int key, long x) {
        long k0 = key;
        return digest(x, k0, k0 ^ 0x0f0e0d0c0b0a0908L);
    }

    static long connectionDigest(int key, int source, int ports) {
        return keyedDigest(key, ((long) source << 32) + Integer.toUnsignedLong(ports));
    }

    private static void rounds(long[] v, int count) {
        for (int i = 0; i < count; i++) {
            half(v, 0, 1, 13);
            v[0] = Long.rotateLeft(v[0], 32);
            half(v, 2, 3, 16);
            half(v, 0, 3, 21);
            half(v, 2, 1, 17);
            v[2] = Long.rotateLeft(v[2], 32);
        }
    }

    private static void half(long[] v, int to, int from, int by) {
        v[to] += v[from];
        v[from] = Long.rotateLeft(v[from], by) ^ v[to];
    }

    static int prime(int size) {
        int m = Math.max(7, Math.min(101, size));
        while (!java.math.BigInteger.valueOf(m).isProbablePrime(50)) {
            m++;
        }
        return m;
    }

    /** The table of a balancer that holds up just these servers. */
    static int[] table(int key, int m, List<Integer> up) {
        int[] table = new int[m];
        Arrays.fill(table, -1);
        for (int given = 0; given < m && !up.isEmpty(); given++) {
            int k = up.get(given % up.size());
            for (int p : list(key, m, k)) {
                if (table[p] == -1) {
                    table[p] = k;
                    break;
                }
            }
        }
        return table;
    }

    private static List<Integer> list(int key, int m, int k) {
        long g = keyedDigest(key, k);
        long f = (g >>> 32) % m;
        long s = 1 + (g & 0xFFFFFFFFL) % (m - 1);
        List<Integer> places = new ArrayList<>();
        for (int j = 0; j < m; j++) {
            places.add((int) ((f + j * s) % m));
        }
        return places;
    }

    /** The sum of the halves of these words. */
    static int sum(int... words) {
        long sum = 0;
        for (int word : words) {
            sum += Integer.toUnsignedLong(word) / 65536 + Integer.toUnsignedLong(word) % 65536;
        }
        while (sum > 65535) {
            sum = sum % 65536 + sum / 65536;
        }
        return (int) sum;
    }

    static int withChecksum(int w0, int w1, int w2, int w3, int w4) {
        int upper = w2 & 0xFFFF0000;
        return upper | (65535 - sum(w0, w1, upper, w3, w4));
    }

    /** The balancer that the router sends to, or -1. */
    static int route(long h, boolean[] live) {
        List<Integer> numbers = new ArrayList<>();
        for (int b = 0; b < live.length; b++) {
            if (live[b]) {
                numbers.add(b);
            }
        }
        if (numbers.isEmpty()) {
            return -1;
        }
        return numbers.get((int) ((h >>> 32) * numbers.size() / 4294967296L));
    }
}
