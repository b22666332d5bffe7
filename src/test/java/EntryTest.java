/** Promises 18 to 20: tick, entry and load. */
public final class EntryTest {
    private static final Checks CHECKS = new Checks();
    private static final int NONE = PacketSpreader.NONE;
    private static final int GREETING = Scene.GREETING;
    private static final int DATA = Scene.DATA;
    private static final int PARTING = Scene.PARTING;

    public static void main(String[] args) {
        tickAnswers();
        patience(GREETING, 4);
        patience(DATA, 16);
        patience(PARTING, 2);
        phasesFollowTheLatestSegment();
        onlyGreetingMakesAnEntry();
        entriesAreLimited();
        fullTableOfEntriesStillServesTheOld();
        connectionsAreTold();
        wrongNumbers();
        CHECKS.end();
    }

    private static PacketSpreader ready() {
        PacketSpreader x = new PacketSpreader(1, 1, 7, 0);
        Scene.offer(x, Scene.CLIENT);
        return x;
    }

    private static void dueEntry(PacketSpreader x, String when, int ports, boolean there) {
        CHECKS.due("entry of " + ports + " " + when, x.entry(0, Scene.CLIENT, ports), there ? 0 : NONE);
    }

    private static void tickAnswers() {
        PacketSpreader x = ready();
        x.segment(1, 0, GREETING);
        for (int n : new int[] {-1, 1001, Integer.MIN_VALUE, Integer.MAX_VALUE}) {
            CHECKS.due("tick(" + n + ")", x.tick(n), false);
        }
        CHECKS.due("tick(0)", x.tick(0), true);
        CHECKS.due("no time went by", x.load(0, 0), 101);
        CHECKS.due("tick(1000)", x.tick(1000), true);
        CHECKS.due("the entry went, the session stays", x.load(0, 0), 100);
    }

    private static void patience(int flags, int patience) {
        PacketSpreader x = ready();
        x.tick(7);
        x.segment(1, 0, GREETING);
        x.tick(3);
        x.segment(1, 1, flags);
        x.tick(patience - 1);
        x.tick(1);
        dueEntry(x, "at its patience", 1, true);
        x.tick(1);
        dueEntry(x, "beyond its patience", 1, false);
        x.segment(1, 0, GREETING);
        x.segment(1, 1, flags);
        x.tick(patience + 1);
        dueEntry(x, "beyond its patience at once", 1, false);
    }

    private static void phasesFollowTheLatestSegment() {
        PacketSpreader x = ready();
        x.segment(1, 0, GREETING);
        x.segment(1, 7, DATA);
        CHECKS.due("a wrong sequence", x.reply(), PacketSpreader.AGAIN);
        x.tick(16);
        dueEntry(x, "is open all the same", 1, true);
        x.segment(1, 0, GREETING);
        x.tick(4);
        dueEntry(x, "is opening again", 1, true);
        x.segment(1, 9, PARTING);
        x.tick(2);
        dueEntry(x, "is closing", 1, true);
        x.segment(1, 1, DATA);
        x.tick(3);
        dueEntry(x, "is open again", 1, true);
        x.segment(1, 2, PARTING);
        dueEntry(x, "is closing, not gone", 1, true);
        x.tick(3);
        dueEntry(x, "has closed", 1, false);
    }

    private static void onlyGreetingMakesAnEntry() {
        PacketSpreader x = ready();
        x.segment(1, 0, DATA);
        x.segment(2, 0, PARTING);
        x.segment(3, 0, Scene.BREAK);
        CHECKS.due("load without an entry", x.load(0, 0), 0);
        x.segment(4, 0, GREETING);
        CHECKS.due("load with one", x.load(0, 0), 101);
        x.segment(4, 0, Scene.BREAK);
        CHECKS.due("load after the break", x.load(0, 0), 0);
    }

    private static void entriesAreLimited() {
        PacketSpreader x = ready();
        for (int ports = 1; ports <= 8; ports++) {
            x.segment(ports, 0, GREETING);
            CHECKS.due("load with " + ports, x.load(0, 0), 101 * ports);
        }
        x.segment(9, 0, GREETING);
        CHECKS.due("load with nine", x.load(0, 0), 908);
        dueEntry(x, "the eighth", 8, true);
        dueEntry(x, "the ninth", 9, false);
        x.segment(3, 0, Scene.BREAK);
        x.segment(9, 0, GREETING);
        dueEntry(x, "in the place that was left", 9, true);
        CHECKS.due("load after that", x.load(0, 0), 808);
    }

    private static void fullTableOfEntriesStillServesTheOld() {
        PacketSpreader x = ready();
        for (int ports = 1; ports <= 8; ports++) {
            x.segment(ports, 0, GREETING);
        }
        x.tick(4);
        x.segment(5, 0, GREETING);
        x.tick(1);
        CHECKS.due("one was used anew", x.load(0, 0), 801);
        dueEntry(x, "that one", 5, true);
    }

    private static void connectionsAreTold() {
        PacketSpreader x = ready();
        x.segment(1, 0, GREETING);
        CHECKS.due("another source", x.entry(0, Scene.CLIENT + 1, 1), NONE);
        CHECKS.due("other ports", x.entry(0, Scene.CLIENT, 2), NONE);
        CHECKS.due("turned round", x.entry(0, 1, Scene.CLIENT), NONE);
        CHECKS.due("nothing at all", x.entry(0, 0, 0), NONE);
        Scene.offer(x, 1);
        x.segment(Scene.CLIENT, 0, GREETING);
        CHECKS.due("two of them", x.load(0, 0), 202);
    }

    private static void wrongNumbers() {
        PacketSpreader x = ready();
        x.segment(1, 0, GREETING);
        for (int n : new int[] {-1, 1, 4, 8, Integer.MIN_VALUE, Integer.MAX_VALUE}) {
            CHECKS.due("entry(" + n + ", ..)", x.entry(n, Scene.CLIENT, 1), NONE);
            CHECKS.due("load(" + n + ", 0)", x.load(n, 0), 100);
            CHECKS.due("load(0, " + n + ")", x.load(0, n), 1);
            CHECKS.due("load(" + n + ", " + n + ")", x.load(n, n), 0);
        }
    }
}
