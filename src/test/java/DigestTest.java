/** Promise 9: digest. */
public final class DigestTest {
    private static final Checks CHECKS = new Checks();

    public static void main(String[] args) {
        theReferenceIsRight();
        ordinaryConnections();
        CHECKS.end();
    }

    /** The published answer of SipHash-2-4 for the bytes 0 .. 7 under the key bytes 0 .. 15. */
    private static void theReferenceIsRight() {
        CHECKS.due("reference", Reference.digest(0x0706050403020100L, 0x0706050403020100L,
                0x0f0e0d0c0b0a0908L), 0x93f5f5799a932462L);
    }

    private static void ordinaryConnections() {
        int[] numbers = {0, 1, -1, 80, 0x0A000001, Integer.MIN_VALUE, Integer.MAX_VALUE};
        for (int key : numbers) {
            PacketSpreader x = new PacketSpreader(1, 1, 7, key);
            for (int source : numbers) {
                for (int ports : numbers) {
                    CHECKS.due("digest(" + source + ", " + ports + ") under " + key,
                            x.digest(source, ports), Reference.connectionDigest(key, source, ports));
                }
            }
        }
    }
}
