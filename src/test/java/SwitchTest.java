/** Promises 13 to 15: live, power and path. */
public final class SwitchTest {
    private static final Checks CHECKS = new Checks();
    private static final int[] NO_NUMBERS = {-1, 2, 8, Integer.MIN_VALUE, Integer.MAX_VALUE};

    public static void main(String[] args) {
        liveAnswers();
        ceasingToBeLiveLosesEntries();
        ceasingToBeLiveKeepsAllElse();
        powerAnswers();
        switchingOffLosesSessions();
        pathAnswers();
        pathsAreEachPairsOwn();
        CHECKS.end();
    }

    private static void liveAnswers() {
        PacketSpreader x = new PacketSpreader(2, 2, 7, 0);
        CHECKS.due("live(1, true)", x.live(1, true), false);
        CHECKS.due("live(1, false)", x.live(1, false), true);
        CHECKS.due("live(1, false) again", x.live(1, false), false);
        CHECKS.due("live(1, true) after that", x.live(1, true), true);
        for (int b : NO_NUMBERS) {
            CHECKS.due("live(" + b + ", false)", x.live(b, false), false);
            CHECKS.due("live(" + b + ", true)", x.live(b, true), false);
        }
    }

    private static void ceasingToBeLiveLosesEntries() {
        PacketSpreader x = new PacketSpreader(2, 1, 7, 0);
        Scene.offer(x, Scene.CLIENT);
        int one = Scene.portsTo(x, 0, 2, 1);
        int other = Scene.portsTo(x, 1, 2, 1);
        x.segment(one, 0, Scene.GREETING);
        x.segment(other, 0, Scene.GREETING);
        x.live(0, true);
        CHECKS.due("live already: entries stay", x.load(0, 0), 201);
        x.live(0, false);
        CHECKS.due("load(0, 0)", x.load(0, 0), 200);
        CHECKS.due("entry of balancer 0", x.entry(0, Scene.CLIENT, one), PacketSpreader.NONE);
        CHECKS.due("load(1, 0)", x.load(1, 0), 201);
        CHECKS.due("entry of balancer 1", x.entry(1, Scene.CLIENT, other), 0);
        x.live(0, true);
        CHECKS.due("they do not come back", x.load(0, 0), 200);
    }

    private static void ceasingToBeLiveKeepsAllElse() {
        PacketSpreader x = new PacketSpreader(1, 3, 13, 0);
        x.power(1, false);
        Scene.probe(x, 0, 3);
        x.power(1, true);
        Scene.probe(x, 0, 1);
        x.path(0, 0, false);
        Scene.probe(x, 0, 1);
        int moved = x.moved(0);
        x.live(0, false);
        x.live(0, true);
        CHECKS.due("held(0, 0)", x.held(0, 0), 1);
        CHECKS.due("held(0, 1)", x.held(0, 1), 12);
        CHECKS.due("share(0, 1)", x.share(0, 1), 0);
        CHECKS.due("moved(0)", x.moved(0), moved);
        CHECKS.due("the path is cut still", x.path(0, 0, false), false);
    }

    private static void powerAnswers() {
        PacketSpreader x = new PacketSpreader(2, 2, 7, 0);
        CHECKS.due("power(1, true)", x.power(1, true), false);
        CHECKS.due("power(1, false)", x.power(1, false), true);
        CHECKS.due("power(1, false) again", x.power(1, false), false);
        CHECKS.due("power(0, true)", x.power(0, true), false);
        CHECKS.due("power(1, true) after that", x.power(1, true), true);
        for (int k : NO_NUMBERS) {
            CHECKS.due("power(" + k + ", false)", x.power(k, false), false);
            CHECKS.due("power(" + k + ", true)", x.power(k, true), false);
        }
    }

    private static void switchingOffLosesSessions() {
        PacketSpreader x = new PacketSpreader(1, 2, 7, 0);
        Scene.offer(x, Scene.CLIENT);
        int one = Scene.portsFor(x, 0, 7, 1);
        int other = Scene.portsFor(x, 1, 7, 1);
        x.segment(one, 0, Scene.GREETING);
        x.segment(other, 0, Scene.GREETING);
        x.power(0, true);
        CHECKS.due("on already: sessions stay", x.load(0, 0), 102);
        x.power(0, false);
        CHECKS.due("sessions go, entries stay", x.load(0, 0), 2);
        CHECKS.due("the other server's session stays", x.load(0, 1), 102);
        x.power(0, true);
        CHECKS.due("they do not come back", x.load(0, 0), 2);
        x.segment(one, 1, Scene.DATA);
        CHECKS.due("reply()", x.reply(), PacketSpreader.REFUSAL);
    }

    private static void pathAnswers() {
        PacketSpreader x = new PacketSpreader(2, 2, 7, 0);
        CHECKS.due("path(1, 0, true)", x.path(1, 0, true), false);
        CHECKS.due("path(1, 0, false)", x.path(1, 0, false), true);
        CHECKS.due("path(1, 0, false) again", x.path(1, 0, false), false);
        CHECKS.due("path(0, 0, true)", x.path(0, 0, true), false);
        CHECKS.due("path(1, 1, true)", x.path(1, 1, true), false);
        CHECKS.due("path(1, 0, true) after that", x.path(1, 0, true), true);
        for (int n : NO_NUMBERS) {
            CHECKS.due("path(" + n + ", 0, false)", x.path(n, 0, false), false);
            CHECKS.due("path(0, " + n + ", false)", x.path(0, n, false), false);
            CHECKS.due("path(0, " + n + ", true)", x.path(0, n, true), false);
        }
    }

    private static void pathsAreEachPairsOwn() {
        PacketSpreader x = new PacketSpreader(2, 1, 7, 0);
        Scene.offer(x, Scene.CLIENT);
        int one = Scene.portsTo(x, 0, 2, 1);
        int other = Scene.portsTo(x, 1, 2, 1);
        x.path(0, 0, false);
        x.segment(one, 0, Scene.GREETING);
        CHECKS.due("reply over the cut path", x.reply(), PacketSpreader.NOTHING);
        x.segment(other, 0, Scene.GREETING);
        CHECKS.due("reply over the whole path", x.reply(), PacketSpreader.WELCOME);
        CHECKS.due("a cut path loses no session", x.load(0, 0), 101);
    }
}
