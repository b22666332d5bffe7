/** The sentences that name what is full, at the last that goes in and at the first that does not. */
public final class FullTest {
    private static final Checks CHECKS = new Checks();
    private static final int NONE = PacketSpreader.NONE;
    private static final int GREETING = Scene.GREETING;
    private static final int DATA = Scene.DATA;
    private static final int PARTING = Scene.PARTING;
    private static final int BREAK = Scene.BREAK;

    public static void main(String[] args) {
        eightEntries();
        sentWithoutAnEntry();
        oldEntryOfFull();
        roomForAnEntry();
        entriesOfEachBalancer();
        tenSessions();
        oldSessionOfFull();
        refusalChangesNoSession();
        entryForARefusedGreeting();
        roomForASession();
        sessionsOfEachServer();
        greatestLoad();
        everyPlaceHasAServer();
        filledAnewWithoutAChange();
        lastOfAllCalls();
        CHECKS.end();
    }

    /** The reply to a greeting with the sequence 0. */
    private static int greet(PacketSpreader x, int ports) {
        x.segment(ports, 0, GREETING);
        return x.reply();
    }

    private static void greetAll(PacketSpreader x, int from, int to) {
        for (int ports = from; ports <= to; ports++) {
            greet(x, ports);
        }
    }

    private static int entries(PacketSpreader x, int b) {
        return x.load(b, NONE);
    }

    private static int sessions(PacketSpreader x, int k) {
        return x.load(NONE, k) / 100;
    }

    private static int entryOf(PacketSpreader x, int ports) {
        return x.entry(0, Scene.CLIENT, ports);
    }

    private static void eightEntries() {
        CHECKS.sentence("ENTRIES: at most 8; A SEGMENT: if there are fewer than 8, a new one is made");
        PacketSpreader x = Scene.ready(1, 1, 7, 1);
        for (int ports = 1; ports <= 10; ports++) {
            greet(x, ports);
            CHECKS.due("entries after " + ports, entries(x, 0), Math.min(ports, 8));
            CHECKS.due("entry of " + ports, entryOf(x, ports), ports <= 8 ? 0 : NONE);
        }
        for (int ports = 1; ports <= 8; ports++) {
            CHECKS.due("entry of " + ports + " stays", entryOf(x, ports), 0);
        }
    }

    private static void sentWithoutAnEntry() {
        CHECKS.sentence("A SEGMENT: when it has none, to the server of its table (with 8 others there)");
        PacketSpreader x = Scene.ready(1, 2, 7, 1);
        greetAll(x, 1, 8);
        for (int k = 0; k < 2; k++) {
            int ports = Scene.portsFor(x, k, 7, 9);
            CHECKS.due("greeting", x.segment(ports, 0, GREETING), k);
            CHECKS.due("its reply", x.reply(), PacketSpreader.WELCOME);
            CHECKS.due("data", x.segment(ports, 1, DATA), k);
            CHECKS.due("its reply", x.reply(), PacketSpreader.TAKEN);
            CHECKS.due("parting", x.segment(ports, 2, PARTING), k);
            CHECKS.due("its reply", x.reply(), PacketSpreader.FAREWELL);
            CHECKS.due("entry", entryOf(x, ports), NONE);
        }
        CHECKS.due("entries", entries(x, 0), 8);
    }

    private static void oldEntryOfFull() {
        CHECKS.sentence("A SEGMENT: a GREETING makes the entry OPENING with the present time (with 8 there)");
        PacketSpreader x = Scene.ready(1, 1, 7, 1);
        greetAll(x, 1, 8);
        x.tick(4);
        greet(x, 1);
        greet(x, 8);
        CHECKS.due("entries", entries(x, 0), 8);
        x.tick(1);
        CHECKS.due("entries, of which two were used", entries(x, 0), 2);
        CHECKS.due("the first", entryOf(x, 1), 0);
        CHECKS.due("the eighth", entryOf(x, 8), 0);
    }

    private static void roomForAnEntry() {
        CHECKS.sentence("A SEGMENT: fewer than 8 (when one was removed, by a break, by time, by a probe, by live)");
        for (int way = 0; way < 4; way++) {
            PacketSpreader x = Scene.ready(1, 2, 7, 1);
            greetAll(x, 1, 8);
            greet(x, 9);
            CHECKS.due("entry of the ninth", entryOf(x, 9), NONE);
            makeRoom(x, way);
            int left = entries(x, 0);
            CHECKS.due("fewer than 8, way " + way, left < 8, true);
            greet(x, 9);
            CHECKS.due("one more, way " + way, entries(x, 0), left + 1);
            CHECKS.due("entry of the ninth, way " + way, entryOf(x, 9) >= 0, true);
        }
    }

    private static void makeRoom(PacketSpreader x, int way) {
        if (way == 0) {
            x.segment(5, 0, BREAK);
        } else if (way == 1) {
            x.tick(3);
            x.segment(5, 0, PARTING);
            x.segment(8, 0, DATA);
            x.tick(2);
        } else if (way == 2) {
            x.path(0, 0, false);
            Scene.probe(x, 0, 3);
        } else {
            x.live(0, false);
            x.live(0, true);
        }
    }

    private static void entriesOfEachBalancer() {
        CHECKS.sentence("ENTRIES: each balancer keeps at most 8");
        PacketSpreader x = Scene.ready(2, 1, 7, 1);
        int ports = 0;
        for (int made = 0; made < 9; made++) {
            ports = Scene.portsTo(x, 0, 2, ports + 1);
            greet(x, ports);
        }
        CHECKS.due("entries of the full one", entries(x, 0), 8);
        int other = Scene.portsTo(x, 1, 2, 1);
        greet(x, other);
        CHECKS.due("entries of the other", entries(x, 1), 1);
        CHECKS.due("entry of the other", x.entry(1, Scene.CLIENT, other), 0);
    }

    private static void tenSessions() {
        CHECKS.sentence("SERVERS: at most 10; when there is no session of the connection and there are 10, REFUSAL");
        PacketSpreader x = Scene.ready(1, 1, 7, 1);
        for (int ports = 1; ports <= 12; ports++) {
            CHECKS.due("greeting of " + ports, greet(x, ports),
                    ports <= 10 ? PacketSpreader.WELCOME : PacketSpreader.REFUSAL);
            CHECKS.due("taken()", x.taken(), 0);
            CHECKS.due("sessions after " + ports, sessions(x, 0), Math.min(ports, 10));
        }
    }

    private static void oldSessionOfFull() {
        CHECKS.sentence("SERVERS: otherwise there is one now, the old one (with 10 there)");
        PacketSpreader x = Scene.ready(1, 1, 7, 1);
        greetAll(x, 1, 10);
        for (int ports : new int[] {1, 10}) {
            x.segment(ports, 1, DATA);
            CHECKS.due("taken()", x.taken(), 1);
            x.segment(ports, 30, GREETING);
            CHECKS.due("greeting of an old one", x.reply(), PacketSpreader.WELCOME);
            CHECKS.due("taken()", x.taken(), 0);
            x.segment(ports, 31, DATA);
            CHECKS.due("data with its new number", x.reply(), PacketSpreader.TAKEN);
            CHECKS.due("taken()", x.taken(), 1);
        }
        CHECKS.due("sessions", sessions(x, 0), 10);
    }

    private static void refusalChangesNoSession() {
        CHECKS.sentence("SERVERS: the reply is REFUSAL (and the 10 sessions stay as they are)");
        PacketSpreader x = Scene.ready(1, 1, 7, 1);
        greetAll(x, 1, 10);
        CHECKS.due("greeting of the eleventh", greet(x, 11), PacketSpreader.REFUSAL);
        x.segment(11, 1, DATA);
        CHECKS.due("data of the eleventh", x.reply(), PacketSpreader.REFUSAL);
        for (int ports = 1; ports <= 10; ports++) {
            x.segment(ports, 1, DATA);
            CHECKS.due("data of " + ports, x.reply(), PacketSpreader.TAKEN);
            CHECKS.due("taken()", x.taken(), 1);
        }
    }

    private static void entryForARefusedGreeting() {
        CHECKS.sentence("A SEGMENT: a new one is made (though its server is full)");
        PacketSpreader x = Scene.ready(1, 1, 7, 1);
        greetAll(x, 1, 10);
        x.tick(5);
        CHECKS.due("load", x.load(0, 0), 1000);
        CHECKS.due("greeting of the eleventh", greet(x, 11), PacketSpreader.REFUSAL);
        CHECKS.due("load then", x.load(0, 0), 1001);
        CHECKS.due("entry of the eleventh", entryOf(x, 11), 0);
    }

    private static void roomForASession() {
        CHECKS.sentence("SERVERS: there are 10 (when one was removed, by a parting, by a break, by power)");
        for (int way = 0; way < 3; way++) {
            PacketSpreader x = Scene.ready(1, 1, 7, 1);
            greetAll(x, 1, 10);
            CHECKS.due("greeting of the eleventh", greet(x, 11), PacketSpreader.REFUSAL);
            if (way == 2) {
                x.power(0, false);
                x.power(0, true);
            } else {
                x.segment(4, 1, way == 0 ? PARTING : BREAK);
            }
            int left = sessions(x, 0);
            CHECKS.due("sessions that are left", left, way == 2 ? 0 : 9);
            CHECKS.due("greeting of the eleventh then", greet(x, 11), PacketSpreader.WELCOME);
            CHECKS.due("sessions then", sessions(x, 0), left + 1);
            CHECKS.due("greeting of the fourth", greet(x, 4),
                    way == 2 ? PacketSpreader.WELCOME : PacketSpreader.REFUSAL);
        }
    }

    private static void sessionsOfEachServer() {
        CHECKS.sentence("SERVERS keep at most 10 (each its own, from all balancers)");
        PacketSpreader x = Scene.ready(2, 2, 7, 1);
        int ports = 0;
        for (int made = 1; made <= 11; made++) {
            ports = Scene.portsFor(x, 0, 7, ports + 1);
            CHECKS.due("greeting " + made, greet(x, ports),
                    made <= 10 ? PacketSpreader.WELCOME : PacketSpreader.REFUSAL);
        }
        CHECKS.due("both balancers carried some", entries(x, 0) > 0 && entries(x, 1) > 0, true);
        CHECKS.due("sessions of the full one", sessions(x, 0), 10);
        CHECKS.due("the other server", greet(x, Scene.portsFor(x, 1, 7, 1)), PacketSpreader.WELCOME);
        CHECKS.due("its sessions", sessions(x, 1), 1);
    }

    private static void greatestLoad() {
        CHECKS.sentence("20: entries plus 100 times sessions (as many as there can be)");
        PacketSpreader x = Scene.ready(1, 1, 7, 1);
        greetAll(x, 1, 7);
        CHECKS.due("load with 7", x.load(0, 0), 707);
        greetAll(x, 8, 9);
        CHECKS.due("load with 9", x.load(0, 0), 908);
        greetAll(x, 10, 20);
        CHECKS.due("load with 20", x.load(0, 0), 1008);
    }

    private static void everyPlaceHasAServer() {
        CHECKS.sentence("FILLING A TABLE: take turns in rising order, until every place has a server");
        for (int m : new int[] {7, 11, 13, 97, 101}) {
            for (int servers = 1; servers <= 8; servers++) {
                PacketSpreader x = new PacketSpreader(1, servers, m, m - servers);
                for (int k = 0; k < servers; k++) {
                    CHECKS.due("of " + m + " places and " + servers + " servers, share(0, " + k + ")",
                            x.share(0, k), m / servers + (k < m % servers ? 1 : 0));
                }
            }
        }
    }

    private static void filledAnewWithoutAChange() {
        CHECKS.sentence("12: how many places changed (none, when 7 places leave the eighth server none)");
        PacketSpreader x = new PacketSpreader(1, 8, 7, 1);
        CHECKS.due("share of the seventh", x.share(0, 6), 1);
        CHECKS.due("share of the eighth", x.share(0, 7), 0);
        x.power(6, false);
        Scene.probe(x, 0, 3);
        CHECKS.due("the seventh goes: at least its place", x.moved(0) > 0, true);
        CHECKS.due("share of the eighth then", x.share(0, 7), 1);
        x.power(6, true);
        Scene.probe(x, 0, 3);
        CHECKS.due("the seventh comes", x.moved(0) > 0, true);
        x.power(7, false);
        Scene.probe(x, 0, 2);
        CHECKS.due("the eighth goes", x.probe(0), 1);
        CHECKS.due("moved(0)", x.moved(0), 0);
    }

    private static void lastOfAllCalls() {
        CHECKS.sentence("What it is: an object is used for at most 512 calls");
        PacketSpreader x = Scene.ready(1, 1, 7, 1);
        x.segment(1, 0, GREETING);
        for (int sequence = 1; sequence <= 506; sequence++) {
            x.segment(1, sequence, DATA);
        }
        CHECKS.due("the stamp of the 507th segment", x.wire(1), (65530 + 506) % 65536 * 65536);
        CHECKS.due("the stamp of the 507th reply", x.wire(12), 506 * 65536);
        CHECKS.due("taken()", x.taken(), 506);
        CHECKS.due("the 512th call", x.reply(), PacketSpreader.TAKEN);
        PacketSpreader old = Scene.ready(1, 1, 7, 1);
        for (int i = 0; i < 506; i++) {
            CHECKS.due("tick(1000)", old.tick(1000), true);
        }
        old.segment(1, 0, GREETING);
        CHECKS.due("tick(4) at last", old.tick(4), true);
        CHECKS.due("the entry of a long time after", old.entry(0, Scene.CLIENT, 1), 0);
        CHECKS.due("tick(1) at last", old.tick(1), true);
        CHECKS.due("the 512th call", old.entry(0, Scene.CLIENT, 1), NONE);
    }
}
