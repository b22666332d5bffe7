import java.util.ArrayList;
import java.util.HashMap;
import java.util.List;
import java.util.Map;

/** The whole document once more, with the Java library and without regard to cost. */
final class Model {
    private record Connection(int source, int ports) {
    }

    private record Entry(int server, String phase, int latest) {
    }

    private record Session(int next, int data) {
    }

    private static final Map<String, Integer> PATIENCE = Map.of("OPENING", 4, "OPEN", 16, "CLOSING", 2);
    private static final Map<Integer, String> PHASE = Map.of(2, "OPENING", 16, "OPEN", 17, "CLOSING");

    private final int key;
    private final int m;
    private final int balancers;
    private final int servers;
    private final boolean[] live;
    private final boolean[] on;
    private final boolean[][] whole;
    private final boolean[][] up;
    private final int[][] count;
    private final int[][] table;
    private final int[] moved;
    private final int[] sentByBalancer;
    private final int[] sentByServer;
    private final List<Map<Connection, Entry>> entries = new ArrayList<>();
    private final List<Map<Connection, Session>> sessions = new ArrayList<>();
    private int[] header;
    private int time;
    private int carrier = -1;
    private int reply = -1;
    private int taken = -1;
    private int[] wire = new int[16];

    Model(int balancers, int servers, int size, int key) {
        this.key = key;
        this.m = Reference.prime(size);
        this.balancers = Math.min(4, Math.max(1, balancers));
        this.servers = Math.min(8, Math.max(1, servers));
        live = new boolean[this.balancers];
        on = new boolean[this.servers];
        whole = new boolean[this.balancers][this.servers];
        up = new boolean[this.balancers][this.servers];
        count = new int[this.balancers][this.servers];
        table = new int[this.balancers][];
        moved = new int[this.balancers];
        sentByBalancer = new int[this.balancers];
        sentByServer = new int[this.servers];
        for (int k = 0; k < this.servers; k++) {
            on[k] = true;
            sessions.add(new HashMap<>());
        }
        for (int b = 0; b < this.balancers; b++) {
            live[b] = true;
            java.util.Arrays.fill(whole[b], true);
            java.util.Arrays.fill(up[b], true);
            table[b] = filled(b);
            entries.add(new HashMap<>());
        }
    }

    private int[] filled(int b) {
        List<Integer> held = new ArrayList<>();
        for (int k = 0; k < servers; k++) {
            if (up[b][k]) {
                held.add(k);
            }
        }
        return Reference.table(key, m, held);
    }

    private boolean noBalancer(int b) {
        return b < 0 || b >= balancers;
    }

    private boolean noServer(int k) {
        return k < 0 || k >= servers;
    }

    int header(int w0, int w1, int w2, int w3, int w4) {
        int length = w0 & 0xFFFF;
        boolean[] faults = {
            w0 >> 24 != 0x45, Reference.sum(w0, w1, w2, w3, w4) != 65535, length < 40 || length > 1480,
            w1 % 16384 != 0, (w2 >> 24 & 255) == 0, (w2 >> 16 & 255) != 6, w4 != 0x0A000001};
        for (int i = 0; i < faults.length; i++) {
            if (faults[i]) {
                return i + 1;
            }
        }
        header = new int[] {w0, w1, w2, w3, w4};
        return 0;
    }

    int segment(int ports, int sequence, int flags) {
        if (flags != 4 && !PHASE.containsKey(flags)) {
            return -4;
        }
        if (header == null) {
            return -2;
        }
        Connection connection = new Connection(header[3], ports);
        long h = digest(header[3], ports);
        int b = Reference.route(h, live);
        if (b < 0) {
            return -3;
        }
        Entry entry = entries.get(b).get(connection);
        int k = entry != null ? entry.server() : table[b][(int) (Long.remainderUnsigned(h & 0xFFFFFFFFL, m))];
        if (k < 0) {
            return -1;
        }
        if (flags == 4) {
            entries.get(b).remove(connection);
        } else if (entry != null || flags == 2 && entries.get(b).size() < 8) {
            entries.get(b).put(connection, new Entry(k, PHASE.get(flags), time));
        }
        carrier = b;
        reply = 0;
        taken = 0;
        if (on[k] && whole[b][k]) {
            serve(sessions.get(k), connection, sequence, flags);
        }
        wire = onTheWire(b, k);
        return k;
    }

    private void serve(Map<Connection, Session> known, Connection connection, int sequence, int flags) {
        Session session = known.get(connection);
        if (flags == 4) {
            known.remove(connection);
        } else if (flags == 2 ? session == null && known.size() == 10 : session == null) {
            reply = 4;
        } else if (flags == 2) {
            known.put(connection, new Session(sequence + 1, 0));
            reply = 1;
        } else if (sequence != session.next()) {
            reply = 3;
            taken = session.data();
        } else if (flags == 16) {
            known.put(connection, new Session(sequence + 1, session.data() + 1));
            reply = 2;
            taken = session.data() + 1;
        } else {
            known.remove(connection);
            reply = 5;
            taken = session.data();
        }
    }

    private int[] onTheWire(int b, int k) {
        int[] words = new int[16];
        int[] out = {0x45000000 + 24 + (header[0] & 0xFFFF), (65530 + sentByBalancer[b]++) % 65536 * 65536,
            0x402F0000, 0x0A000100 + b, 0x0A000200 + k};
        put(words, 0, out);
        words[5] = 0x800;
        System.arraycopy(header, 0, words, 6, 5);
        if (reply != 0) {
            put(words, 11, new int[] {0x45000028, sentByServer[k]++ % 65536 * 65536, 0x40060000,
                0x0A000001, header[3]});
        }
        return words;
    }

    private static void put(int[] words, int at, int[] w) {
        w[2] = Reference.withChecksum(w[0], w[1], w[2], w[3], w[4]);
        System.arraycopy(w, 0, words, at, 5);
    }

    int carrier() {
        return carrier;
    }

    int reply() {
        return reply;
    }

    int taken() {
        return taken;
    }

    int wire(int k) {
        return k < 0 || k > 15 ? 0 : wire[k];
    }

    long digest(int source, int ports) {
        return Reference.connectionDigest(key, source, ports);
    }

    int place(int b, int p) {
        return noBalancer(b) || p < 0 || p >= m ? -1 : table[b][p];
    }

    int share(int b, int k) {
        if (noBalancer(b) || noServer(k)) {
            return -1;
        }
        return (int) java.util.Arrays.stream(table[b]).filter(owner -> owner == k).count();
    }

    int moved(int b) {
        return noBalancer(b) ? -1 : moved[b];
    }

    boolean live(int b, boolean now) {
        if (noBalancer(b) || live[b] == now) {
            return false;
        }
        live[b] = now;
        entries.get(b).clear();
        return true;
    }

    boolean power(int k, boolean now) {
        if (noServer(k) || on[k] == now) {
            return false;
        }
        on[k] = now;
        sessions.get(k).clear();
        return true;
    }

    boolean path(int b, int k, boolean now) {
        if (noBalancer(b) || noServer(k) || whole[b][k] == now) {
            return false;
        }
        whole[b][k] = now;
        return true;
    }

    int probe(int b) {
        if (noBalancer(b) || !live[b]) {
            return -1;
        }
        boolean[] before = up[b].clone();
        int changed = 0;
        for (int k = 0; k < servers; k++) {
            boolean answers = on[k] && whole[b][k];
            if (before[k]) {
                count[b][k] = answers ? 0 : count[b][k] + 1;
            } else {
                count[b][k] = answers ? count[b][k] + 1 : 0;
            }
            if (count[b][k] == 3) {
                up[b][k] = !before[k];
                count[b][k] = 0;
                changed++;
            }
        }
        if (changed > 0) {
            entries.get(b).values().removeIf(entry -> !up[b][entry.server()]);
            int[] anew = filled(b);
            moved[b] = 0;
            for (int p = 0; p < m; p++) {
                moved[b] += anew[p] == table[b][p] ? 0 : 1;
            }
            table[b] = anew;
        }
        return changed;
    }

    int held(int b, int k) {
        return noBalancer(b) || noServer(k) ? -1 : (up[b][k] ? 0 : 10) + count[b][k];
    }

    boolean tick(int n) {
        if (n < 0 || n > 1000) {
            return false;
        }
        time += n;
        for (Map<Connection, Entry> own : entries) {
            own.values().removeIf(entry -> time > entry.latest() + PATIENCE.get(entry.phase()));
        }
        return true;
    }

    int entry(int b, int source, int ports) {
        Entry found = noBalancer(b) ? null : entries.get(b).get(new Connection(source, ports));
        return found == null ? -1 : found.server();
    }

    int load(int b, int k) {
        return (noBalancer(b) ? 0 : entries.get(b).size()) + (noServer(k) ? 0 : 100 * sessions.get(k).size());
    }
}
