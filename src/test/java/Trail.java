import java.util.ArrayList;
import java.util.List;

/** All that an object answers, now and when it is led on, so that no part of its state stays hidden. */
final class Trail {
    static final int BALANCERS = 2;
    static final int SERVERS = 3;
    static final int PLACES = 7;
    static final int PORTS = 6;

    private final PacketSpreader x;
    private final List<String> answers = new ArrayList<>();

    private Trail(PacketSpreader x) {
        this.x = x;
    }

    static List<String> of(PacketSpreader x) {
        Trail trail = new Trail(x);
        trail.look();
        trail.sendAll();
        trail.lookAtEntries();
        trail.pass(1);
        trail.pass(3);
        trail.turnAllOn();
        trail.probeThrice();
        trail.look();
        Scene.offer(x, Scene.CLIENT + 1);
        trail.sendAll();
        return trail.answers;
    }

    private void note(String what, long answer) {
        answers.add(answers.size() + ": " + what + " " + answer);
    }

    private void look() {
        for (int k = 0; k < 16; k++) {
            note("wire", x.wire(k));
        }
        lookAtLatest();
        for (int b = 0; b < BALANCERS; b++) {
            for (int p = 0; p < PLACES; p++) {
                note("place", x.place(b, p));
            }
            note("moved", x.moved(b));
            for (int k = 0; k < SERVERS; k++) {
                note("share", x.share(b, k));
                note("held", x.held(b, k));
            }
        }
        for (int k = 0; k < SERVERS; k++) {
            note("load", x.load(0, k));
        }
        note("digest", x.digest(1, 2));
        lookAtEntries();
    }

    private void lookAtLatest() {
        note("carrier", x.carrier());
        note("reply", x.reply());
        note("taken", x.taken());
    }

    private void lookAtEntries() {
        for (int b = 0; b < BALANCERS; b++) {
            for (int ports = 1; ports <= PORTS; ports++) {
                note("entry", x.entry(b, Scene.CLIENT, ports));
            }
        }
    }

    private void pass(int n) {
        note("tick", x.tick(n) ? 1 : 0);
        lookAtEntries();
    }

    /** Data with each number that may be the next, and one more session at the end. */
    private void sendAll() {
        for (int ports = 1; ports <= PORTS; ports++) {
            for (int sequence = 1; sequence <= 2; sequence++) {
                send(ports, sequence, Scene.DATA);
            }
        }
        send(PORTS + 1, 0, Scene.GREETING);
        note("wire", x.wire(9));
    }

    private void send(int ports, int sequence, int flags) {
        note("segment", x.segment(ports, sequence, flags));
        lookAtLatest();
        note("wire", x.wire(1));
        note("wire", x.wire(12));
    }

    private void turnAllOn() {
        for (int b = 0; b < BALANCERS; b++) {
            note("live", x.live(b, true) ? 1 : 0);
            for (int k = 0; k < SERVERS; k++) {
                note("path", x.path(b, k, true) ? 1 : 0);
            }
        }
        for (int k = 0; k < SERVERS; k++) {
            note("power", x.power(k, true) ? 1 : 0);
        }
    }

    private void probeThrice() {
        for (int i = 0; i < 3; i++) {
            for (int b = 0; b < BALANCERS; b++) {
                note("probe", x.probe(b));
            }
        }
    }
}
