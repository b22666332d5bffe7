/** Promises 4 to 7: segment, carrier, reply and taken. */
public final class SegmentTest {
    private static final Checks CHECKS = new Checks();
    private static final int GREETING = Scene.GREETING;
    private static final int DATA = Scene.DATA;
    private static final int PARTING = Scene.PARTING;
    private static final int BREAK = Scene.BREAK;

    public static void main(String[] args) {
        refusals();
        refusalChangesNothing();
        routes();
        entryGoesBeforeTable();
        conversation();
        sequenceWraps();
        greetingAgain();
        breaks();
        sessionsAreLimited();
        unreachedServer();
        sourceAloneTellsTheClient();
        CHECKS.end();
    }

    private static void send(PacketSpreader x, int ports, int sequence, int flags, int reply, int taken) {
        String call = "segment(" + ports + ", " + sequence + ", " + flags + ")";
        CHECKS.due(call + " is sent", x.segment(ports, sequence, flags) >= 0, true);
        CHECKS.due("reply() after " + call, x.reply(), reply);
        CHECKS.due("taken() after " + call, x.taken(), taken);
    }

    private static void refusals() {
        PacketSpreader x = new PacketSpreader(1, 1, 7, 0);
        for (int flags = -20; flags < 300; flags++) {
            boolean kind = flags == GREETING || flags == DATA || flags == PARTING || flags == BREAK;
            CHECKS.due("flags " + flags, x.segment(1, 1, flags), kind ? -2 : -4);
        }
        x.live(0, false);
        CHECKS.due("-2 before -3", x.segment(1, 1, GREETING), -2);
        Scene.offer(x, Scene.CLIENT);
        CHECKS.due("-4 before -3", x.segment(1, 1, 0), -4);
        CHECKS.due("no balancer", x.segment(1, 1, GREETING), -3);
        x.live(0, true);
        x.power(0, false);
        Scene.probe(x, 0, 2);
        CHECKS.due("not yet down", x.segment(1, 1, GREETING), 0);
        Scene.probe(x, 0, 1);
        CHECKS.due("no server up", x.segment(1, 1, GREETING), -1);
        CHECKS.due("no entry is made", x.load(0, 0), 0);
        x.live(0, false);
        CHECKS.due("-3 before -1", x.segment(1, 1, GREETING), -3);
    }

    private static void refusalChangesNothing() {
        PacketSpreader x = Scene.ready(1, 1, 7, 0);
        send(x, 1, 0, GREETING, PacketSpreader.WELCOME, 0);
        send(x, 1, 1, DATA, PacketSpreader.TAKEN, 1);
        int[] wire = new int[16];
        for (int k = 0; k < 16; k++) {
            wire[k] = x.wire(k);
        }
        x.segment(2, 5, 18);
        x.live(0, false);
        x.segment(2, 5, DATA);
        CHECKS.due("carrier()", x.carrier(), 0);
        CHECKS.due("reply()", x.reply(), PacketSpreader.TAKEN);
        CHECKS.due("taken()", x.taken(), 1);
        for (int k = 0; k < 16; k++) {
            CHECKS.due("wire(" + k + ")", x.wire(k), wire[k]);
        }
        x.live(0, true);
        send(x, 1, 2, DATA, PacketSpreader.TAKEN, 2);
        CHECKS.due("no stamp was spent", x.wire(1), 65532 * 65536);
    }

    private static void routes() {
        int key = 99;
        for (int mask = 1; mask < 16; mask++) {
            PacketSpreader x = Scene.ready(4, 8, 53, key);
            boolean[] live = new boolean[4];
            for (int b = 0; b < 4; b++) {
                live[b] = (mask >> b & 1) == 1;
                x.live(b, live[b]);
            }
            for (int ports = 0; ports < 60; ports++) {
                long h = Reference.connectionDigest(key, Scene.CLIENT, ports);
                int b = Reference.route(h, live);
                int k = x.place(b, (int) ((h & 0xFFFFFFFFL) % 53));
                CHECKS.due("segment(" + ports + ", ..), live " + mask, x.segment(ports, 0, DATA), k);
                CHECKS.due("carrier(), live " + mask, x.carrier(), b);
            }
        }
    }

    private static void entryGoesBeforeTable() {
        PacketSpreader x = Scene.ready(1, 2, 101, 4);
        x.power(0, false);
        Scene.probe(x, 0, 3);
        // Held by server 1 now, though its place goes back to server 0 later on.
        PacketSpreader same = new PacketSpreader(1, 2, 101, 4);
        int ports = Scene.portsFor(same, 0, 101, 1);
        CHECKS.due("greeting", x.segment(ports, 0, GREETING), 1);
        x.power(0, true);
        Scene.probe(x, 0, 3);
        CHECKS.due("data by the entry", x.segment(ports, 1, DATA), 1);
        CHECKS.due("its reply", x.reply(), PacketSpreader.TAKEN);
        CHECKS.due("greeting by the entry", x.segment(ports, 0, GREETING), 1);
        CHECKS.due("break by the entry", x.segment(ports, 0, BREAK), 1);
        CHECKS.due("data by the table", x.segment(ports, 1, DATA), 0);
    }

    private static void conversation() {
        PacketSpreader x = Scene.ready(2, 3, 31, 7);
        send(x, 80, 5, DATA, PacketSpreader.REFUSAL, 0);
        send(x, 80, 5, PARTING, PacketSpreader.REFUSAL, 0);
        send(x, 80, 100, GREETING, PacketSpreader.WELCOME, 0);
        send(x, 80, 100, DATA, PacketSpreader.AGAIN, 0);
        send(x, 80, 102, DATA, PacketSpreader.AGAIN, 0);
        send(x, 80, 101, DATA, PacketSpreader.TAKEN, 1);
        send(x, 80, 102, DATA, PacketSpreader.TAKEN, 2);
        send(x, 80, 102, DATA, PacketSpreader.AGAIN, 2);
        send(x, 80, 104, PARTING, PacketSpreader.AGAIN, 2);
        send(x, 80, 103, DATA, PacketSpreader.TAKEN, 3);
        send(x, 80, 104, PARTING, PacketSpreader.FAREWELL, 3);
        send(x, 80, 105, PARTING, PacketSpreader.REFUSAL, 0);
        send(x, 80, 105, DATA, PacketSpreader.REFUSAL, 0);
    }

    private static void sequenceWraps() {
        PacketSpreader x = Scene.ready(1, 1, 7, 1);
        send(x, 1, -1, GREETING, PacketSpreader.WELCOME, 0);
        send(x, 1, 0, DATA, PacketSpreader.TAKEN, 1);
        send(x, 1, Integer.MAX_VALUE, GREETING, PacketSpreader.WELCOME, 0);
        send(x, 1, Integer.MIN_VALUE, DATA, PacketSpreader.TAKEN, 1);
        send(x, 1, Integer.MAX_VALUE - 1, GREETING, PacketSpreader.WELCOME, 0);
        send(x, 1, Integer.MAX_VALUE, DATA, PacketSpreader.TAKEN, 1);
        send(x, 1, Integer.MIN_VALUE, PARTING, PacketSpreader.FAREWELL, 1);
    }

    private static void greetingAgain() {
        PacketSpreader x = Scene.ready(1, 1, 7, 1);
        send(x, 1, 0, GREETING, PacketSpreader.WELCOME, 0);
        send(x, 1, 1, DATA, PacketSpreader.TAKEN, 1);
        send(x, 1, 70, GREETING, PacketSpreader.WELCOME, 0);
        CHECKS.due("one entry, one session", x.load(0, 0), 101);
        send(x, 1, 2, DATA, PacketSpreader.AGAIN, 0);
        send(x, 1, 71, DATA, PacketSpreader.TAKEN, 1);
        send(x, 1, 72, PARTING, PacketSpreader.FAREWELL, 1);
        send(x, 1, 8, GREETING, PacketSpreader.WELCOME, 0);
        send(x, 1, 9, PARTING, PacketSpreader.FAREWELL, 0);
    }

    private static void breaks() {
        PacketSpreader x = Scene.ready(1, 1, 7, 1);
        send(x, 1, 0, BREAK, PacketSpreader.NOTHING, 0);
        send(x, 1, 0, GREETING, PacketSpreader.WELCOME, 0);
        send(x, 2, 0, GREETING, PacketSpreader.WELCOME, 0);
        send(x, 1, 1, DATA, PacketSpreader.TAKEN, 1);
        send(x, 1, 999, BREAK, PacketSpreader.NOTHING, 0);
        CHECKS.due("the other one stays", x.load(0, 0), 101);
        send(x, 1, 2, DATA, PacketSpreader.REFUSAL, 0);
        send(x, 2, 1, DATA, PacketSpreader.TAKEN, 1);
    }

    private static void sessionsAreLimited() {
        PacketSpreader x = Scene.ready(1, 1, 7, 1);
        for (int ports = 1; ports <= 10; ports++) {
            send(x, ports, 0, GREETING, PacketSpreader.WELCOME, 0);
        }
        send(x, 11, 0, GREETING, PacketSpreader.REFUSAL, 0);
        send(x, 10, 5, GREETING, PacketSpreader.WELCOME, 0);
        send(x, 3, 1, PARTING, PacketSpreader.FAREWELL, 0);
        send(x, 11, 0, GREETING, PacketSpreader.WELCOME, 0);
        send(x, 3, 0, GREETING, PacketSpreader.REFUSAL, 0);
        // A connection is both of its ints.
        Scene.offer(x, Scene.CLIENT + 1);
        send(x, 1, 1, DATA, PacketSpreader.REFUSAL, 0);
    }

    private static void unreachedServer() {
        PacketSpreader x = Scene.ready(1, 1, 7, 1);
        send(x, 1, 0, GREETING, PacketSpreader.WELCOME, 0);
        x.path(0, 0, false);
        send(x, 1, 1, DATA, PacketSpreader.NOTHING, 0);
        send(x, 2, 0, GREETING, PacketSpreader.NOTHING, 0);
        CHECKS.due("the entry is made all the same", x.load(0, 0), 102);
        send(x, 2, 0, BREAK, PacketSpreader.NOTHING, 0);
        CHECKS.due("and removed all the same", x.load(0, 0), 101);
        x.path(0, 0, true);
        send(x, 1, 1, DATA, PacketSpreader.TAKEN, 1);
        x.power(0, false);
        send(x, 1, 2, DATA, PacketSpreader.NOTHING, 0);
        x.power(0, true);
        send(x, 1, 2, DATA, PacketSpreader.REFUSAL, 0);
    }

    private static void sourceAloneTellsTheClient() {
        PacketSpreader x = Scene.ready(1, 1, 7, 1);
        send(x, 1, 0, GREETING, PacketSpreader.WELCOME, 0);
        Scene.offer(x, 0x45FF05C8, 0xFFFFC000, 0x01060000, Scene.CLIENT, Scene.SERVICE);
        send(x, 1, 1, DATA, PacketSpreader.TAKEN, 1);
        CHECKS.due("one entry, one session under both headers", x.load(0, 0), 101);
        Scene.offer(x, Scene.CLIENT + 1);
        send(x, 1, 2, DATA, PacketSpreader.REFUSAL, 0);
    }
}
