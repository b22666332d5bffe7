import java.util.Random;

/** All promises together: runs of 512 calls on the program and on the model, call by call. */
public final class ModelTest {
    private static final Checks CHECKS = new Checks();
    private static final int RUNS = 3000;
    private static final int CALLS = 512;
    private static final int[] FLAGS = {2, 2, 2, 2, 2, 16, 16, 16, 16, 16, 17, 17, 4, 0};

    private final Random random;
    private final int run;
    private final int balancers;
    private final int servers;
    private final int sources;
    private final int manyPorts;
    private final PacketSpreader x;
    private final Model model;

    private ModelTest(int run) {
        this.random = new Random(run);
        this.run = run;
        this.balancers = random.nextInt(6);
        this.servers = random.nextInt(10);
        this.sources = 1 + random.nextInt(3);
        this.manyPorts = 1 + random.nextInt(16);
        int size = random.nextInt(120);
        int key = random.nextBoolean() ? random.nextInt() : random.nextInt(9) - 4;
        this.x = new PacketSpreader(balancers, servers, size, key);
        this.model = new Model(balancers, servers, size, key);
    }

    public static void main(String[] args) {
        for (int run = 0; run < RUNS; run++) {
            ModelTest test = new ModelTest(run);
            for (int call = 0; call < CALLS; call++) {
                test.call(call);
            }
        }
        CHECKS.end();
    }

    private int balancer() {
        return number(Math.max(1, Math.min(4, balancers)));
    }

    private int server() {
        return number(Math.max(1, Math.min(8, servers)));
    }

    /** Mostly 0 .. count - 1, sometimes a number beside these. */
    private int number(int count) {
        return random.nextInt(20) == 0 ? random.nextInt(count + 4) - 2 : random.nextInt(count);
    }

    private int source() {
        return 0xC0A80000 + random.nextInt(sources);
    }

    private int ports() {
        return random.nextInt(manyPorts);
    }

    private void due(int call, String what, long got, long want) {
        CHECKS.due("run " + run + ", call " + call + ": " + what, got, want);
    }

    private void due(int call, String what, boolean got, boolean want) {
        CHECKS.due("run " + run + ", call " + call + ": " + what, got, want);
    }

    private void call(int call) {
        int kind = random.nextInt(100);
        if (kind < 45) {
            send(call);
        } else if (kind < 60) {
            askTheLatest(call);
        } else if (kind < 75) {
            turn(call);
        } else {
            ask(call);
        }
    }

    private void send(int call) {
        if (random.nextInt(6) == 0) {
            offer(call);
            return;
        }
        int ports = ports();
        int sequence = random.nextInt(3);
        int flags = FLAGS[random.nextInt(FLAGS.length)];
        due(call, "segment(" + ports + ", " + sequence + ", " + flags + ")",
                x.segment(ports, sequence, flags), model.segment(ports, sequence, flags));
    }

    private void offer(int call) {
        int w0 = 0x45000000 + random.nextInt(256) * 65536 + 40 + random.nextInt(1441);
        int w1 = random.nextInt() & 0xFFFFC000;
        int w2 = (1 + random.nextInt(255) << 24) + 0x60000;
        int w3 = source();
        int w4 = Scene.SERVICE;
        switch (random.nextInt(12)) {
            case 0 -> w0 += random.nextInt(3) << 24;
            case 1 -> w0 = 0x45000000 + random.nextInt(65536);
            case 2 -> w1 += random.nextInt(16384);
            case 3 -> w2 &= 0x00FFFFFF;
            case 4 -> w2 = random.nextInt();
            case 5 -> w4 += random.nextInt(2);
            default -> { }
        }
        w2 = Reference.withChecksum(w0, w1, w2, w3, w4) + (random.nextInt(20) == 0 ? 1 : 0);
        due(call, "header(..)", x.header(w0, w1, w2, w3, w4), model.header(w0, w1, w2, w3, w4));
    }

    private void askTheLatest(int call) {
        int k = random.nextInt(18) - 1;
        switch (random.nextInt(6)) {
            case 0 -> due(call, "carrier()", x.carrier(), model.carrier());
            case 1 -> due(call, "reply()", x.reply(), model.reply());
            case 2 -> due(call, "taken()", x.taken(), model.taken());
            default -> due(call, "wire(" + k + ")", x.wire(k), model.wire(k));
        }
    }

    private void turn(int call) {
        int b = balancer();
        int k = server();
        int n = random.nextInt(30) == 0 ? random.nextInt(1100) - 50 : random.nextInt(4);
        boolean to = random.nextInt(5) < 3;
        switch (random.nextInt(8)) {
            case 0 -> due(call, "live", x.live(b, to), model.live(b, to));
            case 1 -> due(call, "power", x.power(k, to), model.power(k, to));
            case 2 -> due(call, "path", x.path(b, k, to), model.path(b, k, to));
            case 3 -> due(call, "tick(" + n + ")", x.tick(n), model.tick(n));
            default -> due(call, "probe(" + b + ")", x.probe(b), model.probe(b));
        }
    }

    private void ask(int call) {
        int b = balancer();
        int k = server();
        int p = random.nextInt(105) - 2;
        int source = source();
        int ports = ports();
        switch (random.nextInt(9)) {
            case 0 -> due(call, "digest", x.digest(source, ports), model.digest(source, ports));
            case 1 -> due(call, "place(" + b + ", " + p + ")", x.place(b, p), model.place(b, p));
            case 2 -> due(call, "share(" + b + ", " + k + ")", x.share(b, k), model.share(b, k));
            case 3 -> due(call, "moved(" + b + ")", x.moved(b), model.moved(b));
            case 4 -> due(call, "held(" + b + ", " + k + ")", x.held(b, k), model.held(b, k));
            case 5, 6 -> due(call, "entry(" + b + ", " + source + ", " + ports + ")",
                    x.entry(b, source, ports), model.entry(b, source, ports));
            default -> due(call, "load(" + b + ", " + k + ")", x.load(b, k), model.load(b, k));
        }
    }
}
