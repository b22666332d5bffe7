/** Promises 16 and 17: probe and held. */
public final class ProbeTest {
    private static final Checks CHECKS = new Checks();
    private static final int NONE = PacketSpreader.NONE;

    public static void main(String[] args) {
        downAndUpAgain();
        runsAreBrokenOff();
        severalAtOnce();
        balancersProbeForThemselves();
        entriesOfServersDownGo();
        wrongNumbers();
        CHECKS.end();
    }

    private static void probe(PacketSpreader x, int changed, int held) {
        CHECKS.due("probe(0)", x.probe(0), changed);
        CHECKS.due("held(0, 0)", x.held(0, 0), held);
    }

    private static void downAndUpAgain() {
        PacketSpreader x = new PacketSpreader(1, 2, 7, 0);
        probe(x, 0, 0);
        x.power(0, false);
        CHECKS.due("held before a probe", x.held(0, 0), 0);
        probe(x, 0, 1);
        probe(x, 0, 2);
        probe(x, 1, 10);
        probe(x, 0, 10);
        x.power(0, true);
        probe(x, 0, 11);
        probe(x, 0, 12);
        probe(x, 1, 0);
        probe(x, 0, 0);
        CHECKS.due("held(0, 1)", x.held(0, 1), 0);
    }

    private static void runsAreBrokenOff() {
        PacketSpreader x = new PacketSpreader(1, 2, 7, 0);
        x.path(0, 0, false);
        probe(x, 0, 1);
        probe(x, 0, 2);
        x.path(0, 0, true);
        probe(x, 0, 0);
        x.path(0, 0, false);
        probe(x, 0, 1);
        probe(x, 0, 2);
        probe(x, 1, 10);
        x.path(0, 0, true);
        probe(x, 0, 11);
        probe(x, 0, 12);
        x.power(0, false);
        probe(x, 0, 10);
        x.power(0, true);
        probe(x, 0, 11);
    }

    private static void severalAtOnce() {
        PacketSpreader x = new PacketSpreader(1, 8, 31, 0);
        for (int k = 0; k < 4; k++) {
            x.power(k, false);
        }
        Scene.probe(x, 0, 2);
        CHECKS.due("four go down", x.probe(0), 4);
        for (int k = 0; k < 8; k++) {
            x.power(k, k == 0);
        }
        Scene.probe(x, 0, 2);
        CHECKS.due("one comes up, four go down", x.probe(0), 5);
        CHECKS.due("share(0, 0)", x.share(0, 0), 31);
    }

    private static void balancersProbeForThemselves() {
        PacketSpreader x = new PacketSpreader(2, 2, 7, 0);
        x.power(1, false);
        Scene.probe(x, 0, 3);
        x.probe(1);
        CHECKS.due("held(0, 1)", x.held(0, 1), 10);
        CHECKS.due("held(1, 1)", x.held(1, 1), 1);
        x.live(1, false);
        CHECKS.due("probe of one not live", x.probe(1), NONE);
        CHECKS.due("changes nothing", x.held(1, 1), 1);
        x.live(1, true);
        CHECKS.due("probe of one live again", x.probe(1), 0);
        CHECKS.due("goes on", x.held(1, 1), 2);
    }

    private static void entriesOfServersDownGo() {
        PacketSpreader x = new PacketSpreader(1, 2, 7, 0);
        Scene.offer(x, Scene.CLIENT);
        int one = Scene.portsFor(x, 0, 7, 1);
        int other = Scene.portsFor(x, 1, 7, 1);
        x.segment(one, 0, Scene.GREETING);
        x.segment(other, 0, Scene.GREETING);
        x.path(0, 0, false);
        Scene.probe(x, 0, 2);
        CHECKS.due("held up still", x.entry(0, Scene.CLIENT, one), 0);
        Scene.probe(x, 0, 1);
        CHECKS.due("held down", x.entry(0, Scene.CLIENT, one), NONE);
        CHECKS.due("the other's", x.entry(0, Scene.CLIENT, other), 1);
        CHECKS.due("load: the session stays", x.load(0, 0), 101);
        CHECKS.due("by the new table", x.segment(one, 1, Scene.DATA), 1);
        CHECKS.due("where it is not known", x.reply(), PacketSpreader.REFUSAL);
    }

    private static void wrongNumbers() {
        PacketSpreader x = new PacketSpreader(2, 3, 7, 0);
        for (int n : new int[] {-1, 3, 4, Integer.MIN_VALUE, Integer.MAX_VALUE}) {
            CHECKS.due("probe(" + n + ")", x.probe(n), NONE);
            CHECKS.due("held(" + n + ", 0)", x.held(n, 0), NONE);
            CHECKS.due("held(0, " + n + ")", x.held(0, n), NONE);
        }
        CHECKS.due("held(2, 0)", x.held(2, 0), NONE);
        CHECKS.due("held(1, 2)", x.held(1, 2), 0);
    }
}
