/** The sentences that name what is empty, or not there. */
public final class EmptyTest {
    private static final Checks CHECKS = new Checks();
    private static final int NONE = PacketSpreader.NONE;
    private static final int GREETING = Scene.GREETING;
    private static final int DATA = Scene.DATA;
    private static final int PARTING = Scene.PARTING;
    private static final int BREAK = Scene.BREAK;
    private static final int[] KINDS = {GREETING, DATA, PARTING, BREAK};

    public static void main(String[] args) {
        noHeader();
        noBalancerLive();
        noServerHeldUp();
        noServerHeldUpByTheOtherBalancer();
        firstOfTheRefusals();
        noCarrier();
        noReply();
        noTaken();
        noWire();
        nothingTaken();
        noAnswerOnTheWire();
        noPlaceHasAServer();
        noPlaceOfAServer();
        neverFilledAnew();
        fromNoneAndToNone();
        noneHeldOtherwise();
        noEntryForTheSegment();
        noEntryToMakeOpenOrClosing();
        noEntryToAnswer();
        noSessionToGreet();
        noSessionToBreak();
        noSessionForDataOrParting();
        noSessionToLose();
        noEntryToLose();
        nothingToLoad();
        CHECKS.end();
    }

    /** The only balancer holds the only server down. */
    private static PacketSpreader allDown() {
        PacketSpreader x = Scene.ready(1, 1, 7, 1);
        x.power(0, false);
        Scene.probe(x, 0, 3);
        return x;
    }

    private static PacketSpreader noneLive() {
        PacketSpreader x = Scene.ready(1, 1, 7, 1);
        x.live(0, false);
        return x;
    }

    /** New objects to which a segment was refused, for each of the four reasons. */
    private static PacketSpreader[] refused() {
        PacketSpreader[] objects = {Scene.ready(1, 1, 7, 1), new PacketSpreader(1, 1, 7, 1), noneLive(), allDown()};
        int[] answers = {-4, -2, -3, -1};
        for (int i = 0; i < objects.length; i++) {
            CHECKS.due("the refused segment", objects[i].segment(1, 0, i == 0 ? 3 : GREETING), answers[i]);
        }
        return objects;
    }

    private static void dueSent(PacketSpreader x, int ports, int sequence, int flags, int reply, int taken) {
        String call = "segment(" + ports + ", " + sequence + ", " + flags + ")";
        CHECKS.due(call + " is sent", x.segment(ports, sequence, flags) >= 0, true);
        CHECKS.due("reply() after " + call, x.reply(), reply);
        CHECKS.due("taken() after " + call, x.taken(), taken);
    }

    private static void noHeader() {
        CHECKS.sentence("1: There is no header; 4: -2 there is no header");
        for (int kind : KINDS) {
            PacketSpreader x = new PacketSpreader(1, 1, 7, 1);
            CHECKS.due("without a header", x.segment(1, 0, kind), -2);
            Scene.offer(x, 0x45000027, 0, 0x40060000, 5, Scene.SERVICE);
            CHECKS.due("with a refused header", x.segment(1, 0, kind), -2);
            Scene.offer(x, 5);
            CHECKS.due("with a header", x.segment(1, 0, kind), 0);
            Scene.offer(x, 0x45000027, 0, 0x40060000, 6, Scene.SERVICE);
            CHECKS.due("with a header, and a refused one since", x.segment(1, 0, kind), 0);
        }
    }

    private static void noBalancerLive() {
        CHECKS.sentence("4: -3 no balancer is live");
        for (int kind : KINDS) {
            PacketSpreader x = Scene.ready(4, 1, 7, 1);
            for (int b = 0; b < 3; b++) {
                x.live(b, false);
            }
            CHECKS.due("one is live", x.segment(1, 0, kind), 0);
            CHECKS.due("that one carries it", x.carrier(), 3);
            x.live(3, false);
            CHECKS.due("none is live", x.segment(1, 0, kind), -3);
            x.live(0, true);
            CHECKS.due("another is live", x.segment(1, 0, kind), 0);
            CHECKS.due("the other carries it", x.carrier(), 0);
        }
    }

    private static void noServerHeldUp() {
        CHECKS.sentence("4: -1 the balancer holds no server up");
        for (int kind : KINDS) {
            PacketSpreader x = Scene.ready(1, 2, 7, 1);
            x.power(0, false);
            Scene.probe(x, 0, 3);
            CHECKS.due("one is held up", x.segment(1, 0, kind), 1);
            x.power(1, false);
            Scene.probe(x, 0, 2);
            CHECKS.due("one is held up, though it does not answer", x.segment(1, 0, kind), 1);
            Scene.probe(x, 0, 1);
            CHECKS.due("none is held up", x.segment(1, 0, kind), -1);
            x.power(0, true);
            CHECKS.due("none is held up, though one would answer", x.segment(1, 0, kind), -1);
            Scene.probe(x, 0, 3);
            CHECKS.due("the other is held up", x.segment(1, 0, kind), 0);
        }
    }

    private static void noServerHeldUpByTheOtherBalancer() {
        CHECKS.sentence("4: -1 the balancer holds no server up (whatever another holds)");
        PacketSpreader x = Scene.ready(2, 1, 7, 1);
        int one = Scene.portsTo(x, 0, 2, 1);
        int other = Scene.portsTo(x, 1, 2, 1);
        x.path(0, 0, false);
        Scene.probe(x, 0, 3);
        CHECKS.due("through the one that holds none", x.segment(one, 0, GREETING), -1);
        CHECKS.due("through the other", x.segment(other, 0, GREETING), 0);
        x.live(0, false);
        CHECKS.due("through the other, now that the first is not live", x.segment(one, 0, GREETING), 0);
    }

    private static void firstOfTheRefusals() {
        CHECKS.sentence("4: the first of these that is so");
        PacketSpreader x = new PacketSpreader(1, 1, 7, 1);
        x.power(0, false);
        Scene.probe(x, 0, 3);
        x.live(0, false);
        CHECKS.due("all four are so", x.segment(1, 0, 3), -4);
        CHECKS.due("all but the first", x.segment(1, 0, GREETING), -2);
        Scene.offer(x, Scene.CLIENT);
        CHECKS.due("the first and the last two", x.segment(1, 0, 3), -4);
        CHECKS.due("the last two", x.segment(1, 0, GREETING), -3);
        x.live(0, true);
        CHECKS.due("the first and the last", x.segment(1, 0, 3), -4);
        CHECKS.due("the last", x.segment(1, 0, GREETING), -1);
        x.power(0, true);
        Scene.probe(x, 0, 3);
        CHECKS.due("none", x.segment(1, 0, GREETING), 0);
    }

    private static void noCarrier() {
        CHECKS.sentence("5: NONE when none was sent");
        CHECKS.due("carrier() of a new object", new PacketSpreader(4, 1, 7, 1).carrier(), NONE);
        for (PacketSpreader x : refused()) {
            CHECKS.due("carrier() after a refused segment", x.carrier(), NONE);
        }
        PacketSpreader x = Scene.ready(1, 1, 7, 1);
        CHECKS.due("carrier() with a header only", x.carrier(), NONE);
        x.segment(1, 0, BREAK);
        CHECKS.due("carrier() when one was sent", x.carrier(), 0);
    }

    private static void noReply() {
        CHECKS.sentence("6: NONE when none was sent");
        CHECKS.due("reply() of a new object", new PacketSpreader(4, 1, 7, 1).reply(), NONE);
        for (PacketSpreader x : refused()) {
            CHECKS.due("reply() after a refused segment", x.reply(), NONE);
        }
        PacketSpreader x = Scene.ready(1, 1, 7, 1);
        CHECKS.due("reply() with a header only", x.reply(), NONE);
        x.segment(1, 0, BREAK);
        CHECKS.due("reply() when one was sent", x.reply(), PacketSpreader.NOTHING);
    }

    private static void noTaken() {
        CHECKS.sentence("7: NONE when none was sent");
        CHECKS.due("taken() of a new object", new PacketSpreader(4, 1, 7, 1).taken(), NONE);
        for (PacketSpreader x : refused()) {
            CHECKS.due("taken() after a refused segment", x.taken(), NONE);
        }
        PacketSpreader x = Scene.ready(1, 1, 7, 1);
        CHECKS.due("taken() with a header only", x.taken(), NONE);
        x.segment(1, 0, BREAK);
        CHECKS.due("taken() when one was sent", x.taken(), 0);
    }

    private static void noWire() {
        CHECKS.sentence("8: 0 when none was sent");
        for (PacketSpreader x : refused()) {
            for (int k = -1; k <= 16; k++) {
                CHECKS.due("wire(" + k + ") after a refused segment", x.wire(k), 0);
            }
        }
        PacketSpreader x = Scene.ready(1, 1, 7, 1);
        for (int k = 0; k <= 15; k++) {
            CHECKS.due("wire(" + k + ") with a header only", x.wire(k), 0);
        }
        x.segment(1, 0, BREAK);
        CHECKS.due("wire(5) when one was sent", x.wire(5), 0x800);
    }

    private static void nothingTaken() {
        CHECKS.sentence("7: 0 when the reply is NOTHING or REFUSAL");
        PacketSpreader x = Scene.ready(1, 1, 7, 1);
        dueSent(x, 1, 0, GREETING, PacketSpreader.WELCOME, 0);
        dueSent(x, 1, 1, DATA, PacketSpreader.TAKEN, 1);
        x.path(0, 0, false);
        dueSent(x, 1, 2, DATA, PacketSpreader.NOTHING, 0);
        x.path(0, 0, true);
        dueSent(x, 1, 2, DATA, PacketSpreader.TAKEN, 2);
        dueSent(x, 2, 2, DATA, PacketSpreader.REFUSAL, 0);
        dueSent(x, 1, 9, DATA, PacketSpreader.AGAIN, 2);
        dueSent(x, 1, 3, BREAK, PacketSpreader.NOTHING, 0);
    }

    private static void noAnswerOnTheWire() {
        CHECKS.sentence("8: the server's header, all 0 when the reply was NOTHING");
        PacketSpreader x = Scene.ready(1, 1, 7, 1);
        x.segment(1, 0, GREETING);
        dueAnswer(x, true);
        x.path(0, 0, false);
        x.segment(1, 1, DATA);
        dueAnswer(x, false);
        x.path(0, 0, true);
        x.segment(2, 1, DATA);
        CHECKS.due("reply()", x.reply(), PacketSpreader.REFUSAL);
        dueAnswer(x, true);
        x.segment(1, 1, BREAK);
        dueAnswer(x, false);
    }

    private static void dueAnswer(PacketSpreader x, boolean there) {
        for (int k : new int[] {11, 13, 14, 15}) {
            CHECKS.due("wire(" + k + ") is not 0", x.wire(k) != 0, there);
        }
        CHECKS.due("wire(12) without a reply", there || x.wire(12) == 0, true);
        CHECKS.due("wire(10) is there all the same", x.wire(10), Scene.SERVICE);
    }

    private static void noPlaceHasAServer() {
        CHECKS.sentence("FILLING A TABLE: when it holds none up, no place has a server; 10: NONE when it has none there");
        PacketSpreader x = Scene.ready(1, 2, 13, 1);
        x.power(0, false);
        Scene.probe(x, 0, 3);
        duePlaces(x, 13, 1);
        x.power(1, false);
        Scene.probe(x, 0, 3);
        duePlaces(x, 13, NONE);
        x.power(0, true);
        Scene.probe(x, 0, 3);
        duePlaces(x, 13, 0);
    }

    private static void duePlaces(PacketSpreader x, int m, int k) {
        for (int p = 0; p < m; p++) {
            CHECKS.due("place(0, " + p + ")", x.place(0, p), k);
        }
    }

    private static void noPlaceOfAServer() {
        CHECKS.sentence("11: how many places have server k (none, all)");
        PacketSpreader x = new PacketSpreader(1, 2, 13, 1);
        x.power(0, false);
        Scene.probe(x, 0, 3);
        CHECKS.due("of the one that is held down", x.share(0, 0), 0);
        CHECKS.due("of the only one that is held up", x.share(0, 1), 13);
        x.power(1, false);
        Scene.probe(x, 0, 3);
        CHECKS.due("of 0, when none is held up", x.share(0, 0), 0);
        CHECKS.due("of 1, when none is held up", x.share(0, 1), 0);
    }

    private static void neverFilledAnew() {
        CHECKS.sentence("12: 0 when that has not been");
        PacketSpreader x = new PacketSpreader(2, 2, 7, 1);
        CHECKS.due("moved(0) of a new object", x.moved(0), 0);
        x.power(0, false);
        Scene.probe(x, 0, 2);
        CHECKS.due("moved(0) after probes that change nothing", x.moved(0), 0);
        Scene.probe(x, 0, 1);
        CHECKS.due("moved(0) is not 0 when it was filled anew", x.moved(0) > 0, true);
        CHECKS.due("moved(1)", x.moved(1), 0);
    }

    private static void fromNoneAndToNone() {
        CHECKS.sentence("12: a server and none before; none and a server before");
        PacketSpreader x = new PacketSpreader(1, 1, 13, 1);
        x.power(0, false);
        Scene.probe(x, 0, 3);
        CHECKS.due("none and a server before", x.moved(0), 13);
        Scene.probe(x, 0, 3);
        CHECKS.due("without a filling since", x.moved(0), 13);
        x.power(0, true);
        Scene.probe(x, 0, 3);
        CHECKS.due("a server and none before", x.moved(0), 13);
    }

    private static void noneHeldOtherwise() {
        CHECKS.sentence("HOLDING UP: if one or more are held otherwise than before (none, one, two)");
        PacketSpreader x = Scene.ready(1, 3, 7, 1);
        int ports = Scene.portsFor(x, 0, 7, 1);
        x.segment(ports, 0, GREETING);
        x.power(0, false);
        CHECKS.due("none is", x.probe(0), 0);
        CHECKS.due("its entries stay", x.entry(0, Scene.CLIENT, ports), 0);
        Scene.probe(x, 0, 1);
        CHECKS.due("its table stays", x.share(0, 0), 3);
        CHECKS.due("one is", x.probe(0), 1);
        CHECKS.due("its entries go", x.entry(0, Scene.CLIENT, ports), NONE);
        CHECKS.due("its table is filled anew", x.share(0, 0), 0);
        x.power(0, true);
        x.power(1, false);
        Scene.probe(x, 0, 2);
        CHECKS.due("two are", x.probe(0), 2);
        CHECKS.due("share(0, 0) then", x.share(0, 0), 4);
        CHECKS.due("share(0, 1) then", x.share(0, 1), 0);
    }

    private static void noEntryForTheSegment() {
        CHECKS.sentence("A SEGMENT: when it has none, to the server that its table has at the place");
        for (int kind : KINDS) {
            PacketSpreader x = Scene.ready(1, 2, 7, 1);
            int ports = Scene.portsFor(x, 1, 7, 1);
            CHECKS.due("without an entry", x.segment(ports, 0, kind), 1);
            x.segment(ports, 0, BREAK);
            x.power(1, false);
            Scene.probe(x, 0, 3);
            x.segment(ports, 0, GREETING);
            x.power(1, true);
            Scene.probe(x, 0, 3);
            CHECKS.due("with an entry for another server", x.segment(ports, 0, kind), 0);
            x.tick(17);
            CHECKS.due("without it again", x.segment(ports, 0, kind), 1);
        }
    }

    private static void noEntryToMakeOpenOrClosing() {
        CHECKS.sentence("A SEGMENT: DATA makes an entry that is there OPEN, PARTING makes it CLOSING; BREAK removes it");
        for (int kind : new int[] {DATA, PARTING, BREAK}) {
            PacketSpreader x = Scene.ready(1, 1, 7, 1);
            x.segment(1, 0, kind);
            CHECKS.due("no entry is made by " + kind, x.load(0, 0), 0);
            x.segment(2, 0, GREETING);
            x.segment(1, 0, kind);
            CHECKS.due("nor beside another by " + kind, x.load(0, 0), 101);
            CHECKS.due("the other stays", x.entry(0, Scene.CLIENT, 2), 0);
            x.tick(4);
            CHECKS.due("the other's phase stays", x.load(0, 0), 101);
            x.tick(1);
            CHECKS.due("and its latest use", x.load(0, 0), 100);
        }
    }

    private static void noEntryToAnswer() {
        CHECKS.sentence("19: NONE when there is no such entry");
        PacketSpreader x = Scene.ready(2, 1, 7, 1);
        int ports = Scene.portsTo(x, 0, 2, 1);
        CHECKS.due("of a new object", x.entry(0, 0, 0), NONE);
        x.segment(ports, 0, GREETING);
        CHECKS.due("the entry", x.entry(0, Scene.CLIENT, ports), 0);
        CHECKS.due("of the other balancer", x.entry(1, Scene.CLIENT, ports), NONE);
        CHECKS.due("of other ports", x.entry(0, Scene.CLIENT, ports + 1), NONE);
        CHECKS.due("of another source", x.entry(0, Scene.CLIENT + 1, ports), NONE);
        x.segment(ports, 0, BREAK);
        CHECKS.due("after the break", x.entry(0, Scene.CLIENT, ports), NONE);
        CHECKS.due("of no connection", x.entry(0, 0, 0), NONE);
    }

    private static void noSessionToGreet() {
        CHECKS.sentence("SERVERS: otherwise there is one now (the old or a new one)");
        PacketSpreader x = Scene.ready(1, 1, 7, 1);
        dueSent(x, 1, 5, GREETING, PacketSpreader.WELCOME, 0);
        CHECKS.due("a new one", x.load(0, 0), 101);
        dueSent(x, 1, 6, DATA, PacketSpreader.TAKEN, 1);
        dueSent(x, 1, 50, GREETING, PacketSpreader.WELCOME, 0);
        CHECKS.due("the old one", x.load(0, 0), 101);
        dueSent(x, 1, 7, DATA, PacketSpreader.AGAIN, 0);
        dueSent(x, 1, 51, DATA, PacketSpreader.TAKEN, 1);
    }

    private static void noSessionToBreak() {
        CHECKS.sentence("SERVERS: BREAK: a session of the connection is removed; the reply is NOTHING");
        PacketSpreader x = Scene.ready(1, 1, 7, 1);
        dueSent(x, 1, 0, BREAK, PacketSpreader.NOTHING, 0);
        CHECKS.due("none was there", x.load(0, 0), 0);
        dueSent(x, 1, 0, GREETING, PacketSpreader.WELCOME, 0);
        dueSent(x, 2, 0, BREAK, PacketSpreader.NOTHING, 0);
        CHECKS.due("only another was there", x.load(0, 0), 101);
        dueSent(x, 1, 0, BREAK, PacketSpreader.NOTHING, 0);
        CHECKS.due("it was there", x.load(0, 0), 0);
        dueSent(x, 1, 0, BREAK, PacketSpreader.NOTHING, 0);
        CHECKS.due("it was there before", x.load(0, 0), 0);
    }

    private static void noSessionForDataOrParting() {
        CHECKS.sentence("SERVERS: DATA and PARTING: without a session of the connection the reply is REFUSAL");
        for (int kind : new int[] {DATA, PARTING}) {
            PacketSpreader x = Scene.ready(1, 1, 7, 1);
            dueSent(x, 1, 0, kind, PacketSpreader.REFUSAL, 0);
            dueSent(x, 1, 1, kind, PacketSpreader.REFUSAL, 0);
            dueSent(x, 2, 0, GREETING, PacketSpreader.WELCOME, 0);
            dueSent(x, 1, 1, kind, PacketSpreader.REFUSAL, 0);
            Scene.offer(x, Scene.CLIENT + 1);
            dueSent(x, 2, 1, kind, PacketSpreader.REFUSAL, 0);
            Scene.offer(x, Scene.CLIENT);
            CHECKS.due("none is made, none is removed", x.load(0, 0), 101);
            dueSent(x, 2, 1, PARTING, PacketSpreader.FAREWELL, 0);
            dueSent(x, 2, 2, kind, PacketSpreader.REFUSAL, 0);
            dueSent(x, 2, 1, kind, PacketSpreader.REFUSAL, 0);
        }
    }

    private static void noSessionToLose() {
        CHECKS.sentence("SERVERS: a server that is switched off loses its sessions");
        PacketSpreader x = Scene.ready(1, 2, 7, 1);
        CHECKS.due("off without a session", x.power(0, false), true);
        CHECKS.due("off once more", x.power(0, false), false);
        CHECKS.due("on again", x.power(0, true), true);
        CHECKS.due("no session", x.load(0, 0), 0);
        x.segment(Scene.portsFor(x, 0, 7, 1), 0, GREETING);
        x.segment(Scene.portsFor(x, 1, 7, 1), 0, GREETING);
        CHECKS.due("on already", x.power(0, true), false);
        CHECKS.due("its session stays", x.load(-1, 0), 100);
        CHECKS.due("off with a session", x.power(0, false), true);
        CHECKS.due("its session goes", x.load(-1, 0), 0);
        CHECKS.due("the other's stays", x.load(-1, 1), 100);
        CHECKS.due("on once more", x.power(0, true), true);
        CHECKS.due("its session is gone for good", x.load(-1, 0), 0);
    }

    private static void noEntryToLose() {
        CHECKS.sentence("13: one that ceases to be live loses its entries");
        PacketSpreader x = Scene.ready(1, 1, 7, 1);
        CHECKS.due("ceases without an entry", x.live(0, false), true);
        CHECKS.due("ceases once more", x.live(0, false), false);
        CHECKS.due("live again", x.live(0, true), true);
        x.segment(1, 0, GREETING);
        CHECKS.due("live already", x.live(0, true), false);
        CHECKS.due("its entry stays", x.load(0, 0), 101);
        CHECKS.due("ceases with an entry", x.live(0, false), true);
        CHECKS.due("its entry goes, the session stays", x.load(0, 0), 100);
        CHECKS.due("live once more", x.live(0, true), true);
        CHECKS.due("its entry is gone for good", x.load(0, 0), 100);
    }

    private static void nothingToLoad() {
        CHECKS.sentence("20: how many entries balancer b has, plus 100 times how many sessions server k has");
        PacketSpreader x = Scene.ready(1, 1, 7, 1);
        CHECKS.due("neither", x.load(0, 0), 0);
        x.segment(1, 0, GREETING);
        CHECKS.due("one of each", x.load(0, 0), 101);
        x.tick(5);
        CHECKS.due("no entry", x.load(0, 0), 100);
        x.segment(1, 0, GREETING);
        x.power(0, false);
        CHECKS.due("no session", x.load(0, 0), 1);
        x.tick(5);
        CHECKS.due("neither again", x.load(0, 0), 0);
    }
}
