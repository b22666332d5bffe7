import java.util.List;
import java.util.function.Consumer;
import java.util.function.ToLongFunction;

/** A call that is refused, because a number is not as said there or something is not there, changes nothing. */
public final class RefusedCallTest {
    private static final Checks CHECKS = new Checks();
    private static final int NONE = PacketSpreader.NONE;
    private static final int GREETING = Scene.GREETING;
    private static final int SERVICE = Scene.SERVICE;
    private static final int W0 = 0x45000028;
    private static final int W2 = 0x40060000;
    private static final int[] NO_BALANCER = Scene.beside(Trail.BALANCERS);
    private static final int[] NO_SERVER = Scene.beside(Trail.SERVERS);

    public static void main(String[] args) {
        theTrailShowsEachChange();
        headers();
        segmentsOfNoKind();
        segmentsWithoutAHeader();
        segmentsWithoutABalancer();
        segmentsWithoutAServer();
        words();
        tables();
        live();
        power();
        path();
        probe();
        held();
        tick();
        entryAndLoad();
        switchesThatAreSoAlready();
        CHECKS.end();
    }

    /** Some of everything: entries in all phases at their limits, misses, answers, a cut path, a server off. */
    private static void busy(PacketSpreader x) {
        x.power(0, false);
        Scene.probe(x, 1, 3);
        x.power(0, true);
        x.probe(1);
        Scene.offer(x, Scene.CLIENT);
        for (int ports = 1; ports <= Trail.PORTS; ports++) {
            x.segment(ports, 0, GREETING);
        }
        x.tick(2);
        x.segment(1, 1, Scene.DATA);
        x.segment(2, 7, Scene.DATA);
        x.segment(3, 7, Scene.PARTING);
        x.tick(2);
        x.power(2, false);
        x.path(0, 1, false);
        x.probe(0);
        x.probe(1);
    }

    private static void noneLive(PacketSpreader x) {
        busy(x);
        x.live(0, false);
        x.live(1, false);
    }

    private static void noneUp(PacketSpreader x) {
        busy(x);
        for (int k = 0; k < Trail.SERVERS; k++) {
            x.power(k, false);
        }
        Scene.probe(x, 0, 3);
        Scene.probe(x, 1, 3);
    }

    private static void blank(PacketSpreader x) {
        x.power(1, false);
        x.probe(0);
    }

    private static PacketSpreader made(Consumer<PacketSpreader> before) {
        PacketSpreader x = new PacketSpreader(Trail.BALANCERS, Trail.SERVERS, Trail.PLACES, 3);
        before.accept(x);
        return x;
    }

    /** The call is made on one of two like objects, and must leave it like the other. */
    private static void refused(String call, Consumer<PacketSpreader> before, long answer,
            ToLongFunction<PacketSpreader> made) {
        PacketSpreader x = made(before);
        CHECKS.due(call, made.applyAsLong(x), answer);
        List<String> with = Trail.of(x);
        List<String> without = Trail.of(made(before));
        for (int i = 0; i < without.size(); i++) {
            CHECKS.due("after " + call + ", " + with.get(i) + " instead of " + without.get(i),
                    with.get(i).equals(without.get(i)), true);
        }
    }

    private static void refused(String call, long answer, ToLongFunction<PacketSpreader> made) {
        refused(call, RefusedCallTest::busy, answer, made);
    }

    private static long truth(boolean answer) {
        return answer ? 1 : 0;
    }

    /** The comparison above is worth something only if calls that do change something show. */
    private static void theTrailShowsEachChange() {
        CHECKS.sentence("(this test itself)");
        shown("header", x -> Scene.offer(x, 77));
        shown("a greeting", x -> x.segment(1, 0, GREETING));
        shown("data again", x -> x.segment(4, 9, Scene.DATA));
        shown("a break", x -> x.segment(99, 0, Scene.BREAK));
        shown("tick(1)", x -> truth(x.tick(1)));
        for (int b = 0; b < Trail.BALANCERS; b++) {
            int balancer = b;
            shown("live off", x -> truth(x.live(balancer, false)));
            shown("probe", x -> x.probe(balancer));
            for (int k = 0; k < Trail.SERVERS; k++) {
                int server = k;
                shown("path", x -> truth(x.path(balancer, server, false) || x.path(balancer, server, true)));
            }
        }
        for (int k = 0; k < Trail.SERVERS; k++) {
            int server = k;
            shown("power", x -> truth(x.power(server, false) || x.power(server, true)));
        }
    }

    private static void shown(String call, ToLongFunction<PacketSpreader> made) {
        PacketSpreader x = made(RefusedCallTest::busy);
        made.applyAsLong(x);
        CHECKS.due(call + " shows", Trail.of(x).equals(Trail.of(made(RefusedCallTest::busy))), false);
    }

    private static void headers() {
        CHECKS.sentence("3: answers the first of these that is so, else the header is kept");
        offered(1, 0x46000028, 0, W2, 77, SERVICE);
        offered(3, 0x45000027, 0, W2, 77, SERVICE);
        offered(3, 0x450005C9, 0, W2, 77, SERVICE);
        offered(4, W0, 0x2000, W2, 77, SERVICE);
        offered(5, W0, 0, 0x00060000, 77, SERVICE);
        offered(6, W0, 0, 0x40070000, 77, SERVICE);
        offered(7, W0, 0, W2, 77, SERVICE + 1);
        refused("header with a wrong checksum", 2,
                x -> x.header(W0, 0, Reference.withChecksum(W0, 0, W2, 77, SERVICE) ^ 1, 77, SERVICE));
        refused("header, the first one offered", RefusedCallTest::blank, 7,
                x -> Scene.offer(x, W0, 0, W2, 77, SERVICE + 1));
        firstOfTheFaults();
    }

    private static void offered(int verdict, int w0, int w1, int w2, int w3, int w4) {
        refused("header with the fault " + verdict, verdict, x -> Scene.offer(x, w0, w1, w2, w3, w4));
    }

    /** Each header has one fault, or one more, beside all that come later. */
    private static void firstOfTheFaults() {
        int wrong = Reference.withChecksum(0x45000027, 1, 0x00070000, 77, 0) ^ 1;
        refused("header with 1 and 2", 1, x -> x.header(0x44000027, 1, wrong, 77, 0));
        refused("header with 2 and 3", 2, x -> x.header(0x45000027, 1, wrong, 77, 0));
        offered(3, 0x45000027, 1, 0x00070000, 77, 0);
        offered(4, W0, 1, 0x00070000, 77, 0);
        offered(5, W0, 0, 0x00070000, 77, 0);
        offered(6, W0, 0, 0x01070000, 77, 0);
        offered(7, W0, 0, 0x01060000, 77, 0);
    }

    private static void segmentsOfNoKind() {
        CHECKS.sentence("4: nothing is sent then: -4 flags is none of the four kinds");
        for (int flags : new int[] {0, 1, 3, 5, 15, 18, -2, Integer.MIN_VALUE, Integer.MAX_VALUE}) {
            refused("segment(1, 2, " + flags + ")", -4, x -> x.segment(1, 2, flags));
            refused("segment(50, 0, " + flags + ")", -4, x -> x.segment(50, 0, flags));
        }
    }

    private static void segments(Consumer<PacketSpreader> before, int answer) {
        for (int flags : new int[] {GREETING, Scene.DATA, Scene.PARTING, Scene.BREAK}) {
            for (int ports = 1; ports <= 3; ports++) {
                int of = ports;
                refused("segment(" + ports + ", 1, " + flags + ")", before, answer, x -> x.segment(of, 1, flags));
            }
        }
    }

    private static void segmentsWithoutAHeader() {
        CHECKS.sentence("4: nothing is sent then: -2 there is no header");
        segments(RefusedCallTest::blank, -2);
    }

    private static void segmentsWithoutABalancer() {
        CHECKS.sentence("4: nothing is sent then: -3 no balancer is live");
        segments(RefusedCallTest::noneLive, -3);
    }

    private static void segmentsWithoutAServer() {
        CHECKS.sentence("4: nothing is sent then: -1 the balancer holds no server up");
        segments(RefusedCallTest::noneUp, -1);
    }

    private static void words() {
        CHECKS.sentence("8: 0 when k is not 0 .. 15");
        for (int k : Scene.beside(16)) {
            refused("wire(" + k + ")", 0, x -> x.wire(k));
        }
    }

    private static void tables() {
        CHECKS.sentence("10 to 12: NONE when there is no such balancer, place or server");
        for (int b : NO_BALANCER) {
            refused("place(" + b + ", 0)", NONE, x -> x.place(b, 0));
            refused("share(" + b + ", 0)", NONE, x -> x.share(b, 0));
            refused("moved(" + b + ")", NONE, x -> x.moved(b));
        }
        for (int p : Scene.beside(Trail.PLACES)) {
            refused("place(0, " + p + ")", NONE, x -> x.place(0, p));
        }
        for (int k : NO_SERVER) {
            refused("share(0, " + k + ")", NONE, x -> x.share(0, k));
        }
    }

    private static void live() {
        CHECKS.sentence("13: false also when there is no such balancer");
        for (int b : NO_BALANCER) {
            refused("live(" + b + ", false)", 0, x -> truth(x.live(b, false)));
            refused("live(" + b + ", true)", RefusedCallTest::noneLive, 0, x -> truth(x.live(b, true)));
        }
    }

    private static void power() {
        CHECKS.sentence("14: false also when there is no such server");
        for (int k : NO_SERVER) {
            refused("power(" + k + ", false)", 0, x -> truth(x.power(k, false)));
            refused("power(" + k + ", true)", RefusedCallTest::noneUp, 0, x -> truth(x.power(k, true)));
        }
    }

    private static void path() {
        CHECKS.sentence("15: false also when there is no such balancer or server");
        for (int b : NO_BALANCER) {
            refused("path(" + b + ", 1, true)", 0, x -> truth(x.path(b, 1, true)));
            refused("path(" + b + ", 0, false)", 0, x -> truth(x.path(b, 0, false)));
        }
        for (int k : NO_SERVER) {
            refused("path(0, " + k + ", true)", 0, x -> truth(x.path(0, k, true)));
            refused("path(1, " + k + ", false)", 0, x -> truth(x.path(1, k, false)));
        }
    }

    private static void probe() {
        CHECKS.sentence("16: NONE when there is no such balancer or it is not live");
        for (int b : NO_BALANCER) {
            refused("probe(" + b + ")", NONE, x -> x.probe(b));
        }
        for (int b = 0; b < Trail.BALANCERS; b++) {
            int balancer = b;
            refused("probe(" + b + "), not live", RefusedCallTest::noneLive, NONE, x -> x.probe(balancer));
        }
    }

    private static void held() {
        CHECKS.sentence("17: NONE when there is no such balancer or server");
        for (int b : NO_BALANCER) {
            refused("held(" + b + ", 0)", NONE, x -> x.held(b, 0));
        }
        for (int k : NO_SERVER) {
            refused("held(0, " + k + ")", NONE, x -> x.held(0, k));
        }
    }

    private static void tick() {
        CHECKS.sentence("18: false when n is not 0 .. 1000");
        for (int n : new int[] {-1, -4, 1001, Integer.MIN_VALUE, Integer.MAX_VALUE}) {
            refused("tick(" + n + ")", 0, x -> truth(x.tick(n)));
        }
    }

    private static void entryAndLoad() {
        CHECKS.sentence("19, 20: there is no such balancer, entry or server");
        for (int b : NO_BALANCER) {
            refused("entry(" + b + ", ..)", NONE, x -> x.entry(b, Scene.CLIENT, 1));
            refused("load(" + b + ", -1)", 0, x -> x.load(b, -1));
        }
        refused("entry of no connection", NONE, x -> x.entry(0, 0, 0));
        for (int k : NO_SERVER) {
            refused("load(-1, " + k + ")", 0, x -> x.load(-1, k));
        }
    }

    private static void switchesThatAreSoAlready() {
        CHECKS.sentence("13 to 15: whether that changed something, whether it was otherwise before (it was not)");
        refused("live(0, true)", 0, x -> truth(x.live(0, true)));
        refused("live(1, true)", 0, x -> truth(x.live(1, true)));
        refused("live(0, false)", RefusedCallTest::noneLive, 0, x -> truth(x.live(0, false)));
        refused("power(1, true)", 0, x -> truth(x.power(1, true)));
        refused("power(2, false)", 0, x -> truth(x.power(2, false)));
        refused("path(0, 0, true)", 0, x -> truth(x.path(0, 0, true)));
        refused("path(0, 1, false)", 0, x -> truth(x.path(0, 1, false)));
        refused("tick(0)", 1, x -> truth(x.tick(0)));
    }
}
