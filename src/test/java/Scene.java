import java.util.Arrays;

/** What many tests begin with. */
final class Scene {
    static final int GREETING = 2;
    static final int DATA = 16;
    static final int PARTING = 17;
    static final int BREAK = 4;
    static final int SERVICE = 0x0A000001;
    static final int CLIENT = 0xC0A80005;

    private Scene() {
    }

    /** A new object that has kept a header of the client. */
    static PacketSpreader ready(int balancers, int servers, int size, int key) {
        PacketSpreader x = new PacketSpreader(balancers, servers, size, key);
        offer(x, CLIENT);
        return x;
    }

    static int offer(PacketSpreader x, int source) {
        return offer(x, 0x45000028, 0x10000, 0x40060000, source, SERVICE);
    }

    /** Offers a header whose checksum is made right. */
    static int offer(PacketSpreader x, int w0, int w1, int w2, int w3, int w4) {
        return x.header(w0, w1, Reference.withChecksum(w0, w1, w2, w3, w4), w3, w4);
    }

    /** The first ports from this one on that the router sends to the balancer while all are live. */
    static int portsTo(PacketSpreader x, int b, int balancers, int from) {
        boolean[] live = new boolean[balancers];
        Arrays.fill(live, true);
        int ports = from;
        while (Reference.route(x.digest(CLIENT, ports), live) != b) {
            ports++;
        }
        return ports;
    }

    /** The first ports from this one on whose place the table of balancer 0 gives to the server. */
    static int portsFor(PacketSpreader x, int k, int m, int from) {
        int ports = from;
        while (x.place(0, (int) ((x.digest(CLIENT, ports) & 0xFFFFFFFFL) % m)) != k) {
            ports++;
        }
        return ports;
    }

    static void probe(PacketSpreader x, int b, int times) {
        for (int i = 0; i < times; i++) {
            x.probe(b);
        }
    }

    /** The numbers from 0 to count - 1 that are at the bounds. */
    static int[] bounds(int count) {
        return new int[] {0, count - 1};
    }

    /** Numbers beside 0 .. count - 1, those next to the bounds and the farthest. */
    static int[] beside(int count) {
        return new int[] {-1, count, Integer.MIN_VALUE, Integer.MAX_VALUE};
    }
}
