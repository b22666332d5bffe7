/** Promises 2 and 3: checksum and header. */
public final class HeaderTest {
    private static final Checks CHECKS = new Checks();
    private static final int SERVICE = Scene.SERVICE;
    // Made anew now and then: an object answers 512 calls only.
    private static PacketSpreader x;

    public static void main(String[] args) {
        checksums();
        verdicts();
        checksumVerdicts();
        firstFaultCounts();
        refusedHeaderIsNotKept();
        CHECKS.end();
    }

    private static void begin() {
        x = new PacketSpreader(1, 1, 7, 0);
    }

    private static void checksums() {
        begin();
        CHECKS.due("checksum of 0", x.checksum(0, 0, 0, 0, 0), 65535);
        CHECKS.due("checksum of -1", x.checksum(-1, -1, -1, -1, -1), 0);
        CHECKS.due("the lower half of w2 counts not", x.checksum(0, 0, 0xFFFF, 0, 0), 65535);
        CHECKS.due("a sum of 65536", x.checksum(0xFFFF, 1, 0, 0, 0), 65534);
        CHECKS.due("a carry of two folds", x.checksum(0xFFFF, 0xFFFF0001, 0, 0, 0), 65534);
        int[] words = {0, 1, -1, 0x45000028, 0x80007FFF, 0xFFFF, 0xFFFF0000, 0x12345678};
        for (int w0 : words) {
            begin();
            for (int w1 : words) {
                for (int w2 : words) {
                    int w3 = w0 ^ 0x5A5A1234;
                    int w4 = w1 + w2;
                    CHECKS.due("checksum(" + w0 + ", " + w1 + ", " + w2 + ", ..)",
                            x.checksum(w0, w1, w2, w3, w4),
                            Reference.withChecksum(w0, w1, w2, w3, w4) & 0xFFFF);
                }
            }
        }
    }

    private static void offer(int w0, int w1, int w2, int w3, int w4, int verdict) {
        CHECKS.due("header(" + Integer.toHexString(w0) + ", " + Integer.toHexString(w1) + ", "
                + Integer.toHexString(w2) + ", ..)", Scene.offer(x, w0, w1, w2, w3, w4), verdict);
    }

    private static void verdicts() {
        begin();
        int w1 = 0x10000;
        int w2 = 0x40060000;
        offer(0x45000028, w1, w2, 5, SERVICE, 0);
        offer(0x45FF0028, w1, w2, 5, SERVICE, 0);
        offer(0x44000028, w1, w2, 5, SERVICE, 1);
        offer(0x46000028, w1, w2, 5, SERVICE, 1);
        offer(0xC5000028, w1, w2, 5, SERVICE, 1);
        offer(0x45000027, w1, w2, 5, SERVICE, 3);
        offer(0x450005C8, w1, w2, 5, SERVICE, 0);
        offer(0x450005C9, w1, w2, 5, SERVICE, 3);
        offer(0x4500FFFF, w1, w2, 5, SERVICE, 3);
        for (int bit = 0; bit < 32; bit++) {
            offer(0x45000028, 1 << bit, w2, 5, SERVICE, bit < 14 ? 4 : 0);
        }
        offer(0x45000028, w1, 0x00060000, 5, SERVICE, 5);
        offer(0x45000028, w1, 0x01060000, 5, SERVICE, 0);
        offer(0x45000028, w1, 0xFF060000, 5, SERVICE, 0);
        offer(0x45000028, w1, 0x40050000, 5, SERVICE, 6);
        offer(0x45000028, w1, 0x40860000, 5, SERVICE, 6);
        offer(0x45000028, w1, 0x40110000, 5, SERVICE, 6);
        offer(0x45000028, w1, w2, 5, SERVICE + 1, 7);
        offer(0x45000028, w1, w2, 5, 0x0A000100, 7);
        offer(0x45000028, w1, w2, 5, -SERVICE, 7);
    }

    private static void checksumVerdicts() {
        begin();
        int right = Reference.withChecksum(0x45000028, 0, 0x40060000, 9, SERVICE);
        for (int off = -2; off <= 2; off++) {
            CHECKS.due("checksum off by " + off, x.header(0x45000028, 0, right + off, 9, SERVICE),
                    off == 0 ? 0 : 2);
        }
        // The nine other halves add up to 65535 here, so that both 0 and 65535 are right.
        int others = Reference.sum(0x45000028, 0, 0x40060000, 0, SERVICE);
        int source = 65535 - others;
        CHECKS.due("checksum 0", x.header(0x45000028, 0, 0x40060000, source, SERVICE), 0);
        CHECKS.due("checksum 65535", x.header(0x45000028, 0, 0x4006FFFF, source, SERVICE), 0);
        CHECKS.due("checksum 1", x.header(0x45000028, 0, 0x40060001, source, SERVICE), 2);
    }

    private static void firstFaultCounts() {
        begin();
        CHECKS.due("1 before 2", x.header(0, 0, 0, 0, 0), 1);
        CHECKS.due("2 before 3", x.header(0x45000000, 1, 0, 0, 0), 2);
        offer(0x45000000, 1, 0, 0, 0, 3);
        offer(0x45000028, 1, 0, 0, 0, 4);
        offer(0x45000028, 0, 0, 0, 0, 5);
        offer(0x45000028, 0, 0x01000000, 0, 0, 6);
        offer(0x45000028, 0, 0x01060000, 0, 0, 7);
    }

    private static void refusedHeaderIsNotKept() {
        begin();
        CHECKS.due("a wrong header", Scene.offer(x, 0x45000028, 0, 0x40060000, 1, 1), 7);
        CHECKS.due("segment after a wrong header only", x.segment(1, 1, Scene.GREETING), -2);
        Scene.offer(x, 11);
        Scene.offer(x, 0x45000027, 0, 0x40060000, 22, SERVICE);
        x.segment(1, 1, Scene.GREETING);
        CHECKS.due("source of the kept header", x.wire(9), 11);
        CHECKS.due("entry by the kept header", x.entry(0, 11, 1), 0);
        Scene.offer(x, 33);
        CHECKS.due("what was sent stays", x.wire(9), 11);
        x.segment(1, 1, Scene.GREETING);
        CHECKS.due("source of the new header", x.wire(9), 33);
    }
}
