/** Promise 8: wire. */
public final class WireTest {
    private static final Checks CHECKS = new Checks();

    public static void main(String[] args) {
        everyWord(40);
        everyWord(1480);
        wrongWords();
        stampsWrap();
        stampsAreEachSendersOwn();
        CHECKS.end();
    }

    private static void dueHeader(PacketSpreader x, int at, int w0, int w1, int w2, int w3, int w4) {
        int[] due = {w0, w1, Reference.withChecksum(w0, w1, w2, w3, w4), w3, w4};
        for (int k = 0; k < 5; k++) {
            CHECKS.due("wire(" + (at + k) + ")", x.wire(at + k), due[k]);
        }
    }

    private static void dueNoAnswer(PacketSpreader x) {
        for (int k = 11; k < 16; k++) {
            CHECKS.due("wire(" + k + ") without a reply", x.wire(k), 0);
        }
    }

    private static void everyWord(int length) {
        PacketSpreader x = new PacketSpreader(4, 8, 101, 12);
        int source = 0xFEDC0000 + length;
        int w0 = 0x45120000 + length;
        Scene.offer(x, w0, 0xABCD4000, 0x80060000, source, Scene.SERVICE);
        int k = x.segment(80, 1, Scene.GREETING);
        int b = x.carrier();
        Scene.offer(x, 5);
        int out = 0x45000000 + 24 + length;
        dueHeader(x, 0, out, 0xFFFA0000, 0x402F0000, 0x0A000100 + b, 0x0A000200 + k);
        CHECKS.due("wire(5)", x.wire(5), 0x800);
        dueHeader(x, 6, w0, 0xABCD4000, 0x80060000, source, Scene.SERVICE);
        dueHeader(x, 11, 0x45000028, 0, 0x40060000, Scene.SERVICE, source);
        Scene.offer(x, w0, 0xABCD4000, 0x80060000, source, Scene.SERVICE);
        x.path(b, k, false);
        x.segment(80, 2, Scene.DATA);
        dueHeader(x, 0, out, 0xFFFB0000, 0x402F0000, 0x0A000100 + b, 0x0A000200 + k);
        dueNoAnswer(x);
    }

    private static void wrongWords() {
        PacketSpreader x = new PacketSpreader(1, 1, 7, 0);
        Scene.offer(x, 5);
        x.segment(1, 1, Scene.GREETING);
        for (int k : new int[] {-1, 16, 17, Integer.MIN_VALUE, Integer.MAX_VALUE}) {
            CHECKS.due("wire(" + k + ")", x.wire(k), 0);
        }
    }

    private static void stampsWrap() {
        PacketSpreader x = new PacketSpreader(1, 1, 7, 0);
        Scene.offer(x, 5);
        for (int i = 0; i < 10; i++) {
            x.segment(1, 1, Scene.GREETING);
            int stamp = (65530 + i) % 65536;
            dueHeader(x, 0, 0x45000040, stamp << 16, 0x402F0000, 0x0A000100, 0x0A000200);
            dueHeader(x, 11, 0x45000028, i << 16, 0x40060000, Scene.SERVICE, 5);
        }
    }

    private static void stampsAreEachSendersOwn() {
        PacketSpreader x = new PacketSpreader(2, 1, 7, 0);
        Scene.offer(x, Scene.CLIENT);
        int one = Scene.portsTo(x, 0, 2, 1);
        int other = Scene.portsTo(x, 1, 2, 1);
        stamps(x, one, Scene.DATA, 65530, 0);
        stamps(x, other, Scene.GREETING, 65530, 1);
        stamps(x, one, Scene.GREETING, 65531, 2);
        x.segment(one, 0, Scene.BREAK);
        CHECKS.due("stamp of a break", x.wire(1), 65532 * 65536);
        dueNoAnswer(x);
        stamps(x, one, Scene.DATA, 65533, 3);
        x.live(0, false);
        x.power(0, false);
        x.live(0, true);
        x.power(0, true);
        x.tick(1000);
        Scene.probe(x, 0, 4);
        stamps(x, one, Scene.GREETING, 65534, 4);
        stamps(x, other, Scene.GREETING, 65531, 5);
    }

    private static void stamps(PacketSpreader x, int ports, int flags, int balancer, int server) {
        x.segment(ports, 0, flags);
        CHECKS.due("the balancer's stamp", x.wire(1), balancer * 65536);
        CHECKS.due("the server's stamp", x.wire(12), server * 65536);
    }
}
