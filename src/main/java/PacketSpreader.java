import java.util.Arrays;

/** Spreads the connections of many clients over a few servers. */
public final class PacketSpreader {
    public static final int NONE = -1;
    public static final int NOTHING = 0;
    public static final int WELCOME = 1;
    public static final int TAKEN = 2;
    public static final int AGAIN = 3;
    public static final int REFUSAL = 4;
    public static final int FAREWELL = 5;

    private static final int GREETING = 2;
    private static final int DATA = 16;
    private static final int PARTING = 17;
    private static final int BREAK = 4;

    private static final int NO_SERVER_UP = -1;
    private static final int NO_HEADER = -2;
    private static final int NO_BALANCER_LIVE = -3;
    private static final int NO_KIND = -4;

    private static final int SERVICE_ADDRESS = 0x0A000001;
    private static final int FIRST_BALANCER_ADDRESS = 0x0A000100;
    private static final int FIRST_SERVER_ADDRESS = 0x0A000200;

    private static final int LEAST_SIZE = 7;
    private static final int GREATEST_SIZE = 101;
    private static final int LONGEST_TICK = 1000;
    private static final int LOWER_HALF = 0xFFFF;
    private static final long LOWER_HALF_OF_LONG = 0xFFFFFFFFL;
    private static final long SECOND_KEY_MASK = 0x0f0e0d0c0b0a0908L;

    private final Digester digester;
    private final Balancer[] balancers;
    private final Server[] servers;
    private final int size;
    private final int[] kept = new int[5];
    private final Wire latestWire = new Wire();
    private boolean headerKept;
    private int latestCarrier = NONE;
    private int latestReply = NONE;
    private int latestTaken = NONE;
    private int time;

    public PacketSpreader(int balancers, int servers, int size, int key) {
        int balancerCount = clamp(balancers, 1, 4);
        int serverCount = clamp(servers, 1, 8);
        this.size = primeFrom(clamp(size, LEAST_SIZE, GREATEST_SIZE));
        this.digester = new Digester(key, key ^ SECOND_KEY_MASK);
        this.servers = new Server[serverCount];
        for (int k = 0; k < serverCount; k++) {
            this.servers[k] = new Server();
        }
        Lists lists = new Lists(serverCount, this.size, digester);
        this.balancers = new Balancer[balancerCount];
        for (int b = 0; b < balancerCount; b++) {
            this.balancers[b] = new Balancer(serverCount, lists);
        }
    }

    public int checksum(int w0, int w1, int w2, int w3, int w4) {
        return Sums.rightChecksum(w0, w1, w2, w3, w4);
    }

    public int header(int w0, int w1, int w2, int w3, int w4) {
        int fault = faultOf(w0, w1, w2, w3, w4);
        if (fault == 0) {
            kept[0] = w0;
            kept[1] = w1;
            kept[2] = w2;
            kept[3] = w3;
            kept[4] = w4;
            headerKept = true;
        }
        return fault;
    }

    public int segment(int ports, int sequence, int flags) {
        if (!isKind(flags)) {
            return NO_KIND;
        }
        if (!headerKept) {
            return NO_HEADER;
        }
        int source = kept[3];
        long h = digester.digestOf(joined(source, ports));
        int b = route(h);
        if (b == NONE) {
            return NO_BALANCER_LIVE;
        }
        int k = balancers[b].serverFor(source, ports, placeOf(h));
        if (k == NONE) {
            return NO_SERVER_UP;
        }
        balancers[b].entries.note(source, ports, k, flags, time);
        deliver(b, k, ports, sequence, flags);
        return k;
    }

    public int carrier() {
        return latestCarrier;
    }

    public int reply() {
        return latestReply;
    }

    public int taken() {
        return latestTaken;
    }

    public int wire(int k) {
        return latestWire.word(k);
    }

    public long digest(int source, int ports) {
        return digester.digestOf(joined(source, ports));
    }

    public int place(int b, int p) {
        if (!isBalancer(b) || p < 0 || p >= size) {
            return NONE;
        }
        return balancers[b].table.serverAt(p);
    }

    public int share(int b, int k) {
        if (!isBalancer(b) || !isServer(k)) {
            return NONE;
        }
        return balancers[b].table.placesOf(k);
    }

    public int moved(int b) {
        return isBalancer(b) ? balancers[b].table.changes : NONE;
    }

    public boolean live(int b, boolean on) {
        return isBalancer(b) && balancers[b].setLive(on);
    }

    public boolean power(int k, boolean on) {
        return isServer(k) && servers[k].setOn(on);
    }

    public boolean path(int b, int k, boolean whole) {
        if (!isBalancer(b) || !isServer(k)) {
            return false;
        }
        return balancers[b].setPath(k, whole);
    }

    public int probe(int b) {
        if (!isBalancer(b) || !balancers[b].isLive) {
            return NONE;
        }
        return balancers[b].probeAll(servers);
    }

    public int held(int b, int k) {
        if (!isBalancer(b) || !isServer(k)) {
            return NONE;
        }
        return balancers[b].watch.stateOf(k);
    }

    public boolean tick(int n) {
        if (n < 0 || n > LONGEST_TICK) {
            return false;
        }
        time += n;
        for (int b = 0; b < balancers.length; b++) {
            balancers[b].entries.removeStale(time);
        }
        return true;
    }

    public int entry(int b, int source, int ports) {
        return isBalancer(b) ? balancers[b].entries.serverOf(source, ports) : NONE;
    }

    public int load(int b, int k) {
        int entryCount = isBalancer(b) ? balancers[b].entries.slots.used() : 0;
        int sessionCount = isServer(k) ? servers[k].slots.used() : 0;
        return entryCount + 100 * sessionCount;
    }

    private boolean isBalancer(int b) {
        return b >= 0 && b < balancers.length;
    }

    private boolean isServer(int k) {
        return k >= 0 && k < servers.length;
    }

    private int placeOf(long h) {
        return (int) ((h & LOWER_HALF_OF_LONG) % size);
    }

    private int route(long h) {
        int liveCount = 0;
        for (int b = 0; b < balancers.length; b++) {
            if (balancers[b].isLive) {
                liveCount++;
            }
        }
        int before = (int) (((h >>> 32) * liveCount) >>> 32);
        for (int b = 0; b < balancers.length; b++) {
            if (balancers[b].isLive) {
                if (before == 0) {
                    return b;
                }
                before--;
            }
        }
        return NONE;
    }

    private void deliver(int b, int k, int ports, int sequence, int flags) {
        Balancer balancer = balancers[b];
        Server server = servers[k];
        latestCarrier = b;
        latestReply = NOTHING;
        latestTaken = 0;
        if (balancer.reaches(k, server)) {
            latestReply = server.receive(kept[3], ports, sequence, flags);
            latestTaken = server.takenAtReply;
        }
        latestWire.putForward(kept, balancer.stamp.next(), b, k);
        if (latestReply == NOTHING) {
            latestWire.clearAnswer();
        } else {
            latestWire.putAnswer(server.stamp.next(), kept[3]);
        }
    }

    private static int faultOf(int w0, int w1, int w2, int w3, int w4) {
        if (w0 >>> 24 != 0x45) {
            return 1;
        }
        if (Sums.sumOf(w0, w1, w2, w3, w4) != Sums.FULL) {
            return 2;
        }
        int length = w0 & LOWER_HALF;
        if (length < 40 || length > 1480) {
            return 3;
        }
        if ((w1 & 0x3FFF) != 0) {
            return 4;
        }
        if (w2 >>> 24 == 0) {
            return 5;
        }
        if (((w2 >>> 16) & 0xFF) != 6) {
            return 6;
        }
        return w4 != SERVICE_ADDRESS ? 7 : 0;
    }

    private static boolean isKind(int flags) {
        return flags == GREETING || flags == DATA || flags == PARTING || flags == BREAK;
    }

    private static long joined(int source, int ports) {
        return ((long) source << 32) | (ports & LOWER_HALF_OF_LONG);
    }

    private static int clamp(int number, int least, int greatest) {
        return Math.max(least, Math.min(greatest, number));
    }

    private static int primeFrom(int least) {
        for (int m = least; m < GREATEST_SIZE; m++) {
            if (isPrime(m)) {
                return m;
            }
        }
        // The greatest size is itself a prime number.
        return GREATEST_SIZE;
    }

    private static boolean isPrime(int m) {
        for (int divisor = 2; divisor < m; divisor++) {
            if (m % divisor == 0) {
                return false;
            }
        }
        return true;
    }

    private static final class Sums {
        static final int FULL = 65535;

        static int rightChecksum(int w0, int w1, int w2, int w3, int w4) {
            return FULL - sumOf(w0, w1, w2 & ~LOWER_HALF, w3, w4);
        }

        static int sumOf(int w0, int w1, int w2, int w3, int w4) {
            int sum = halves(w0) + halves(w1) + halves(w2) + halves(w3) + halves(w4);
            // Ten halves carry at most 9, so the second fold leaves no carry.
            return fold(fold(sum));
        }

        private static int halves(int word) {
            return (word >>> 16) + (word & LOWER_HALF);
        }

        private static int fold(int sum) {
            return (sum & LOWER_HALF) + (sum >>> 16);
        }
    }

    private static final class Digester {
        private final long k0;
        private final long k1;
        private long a;
        private long b;
        private long c;
        private long d;

        Digester(long k0, long k1) {
            this.k0 = k0;
            this.k1 = k1;
        }

        long digestOf(long x) {
            a = k0 ^ 0x736f6d6570736575L;
            b = k1 ^ 0x646f72616e646f6dL;
            c = k0 ^ 0x6c7967656e657261L;
            d = k1 ^ 0x7465646279746573L;
            takeIn(x);
            takeIn(0x0800000000000000L);
            c ^= 255;
            for (int i = 0; i < 4; i++) {
                round();
            }
            return a ^ b ^ c ^ d;
        }

        private void takeIn(long y) {
            d ^= y;
            round();
            round();
            a ^= y;
        }

        private void round() {
            a += b;
            b = turnedLeft(b, 13) ^ a;
            a = turnedLeft(a, 32);
            c += d;
            d = turnedLeft(d, 16) ^ c;
            a += d;
            d = turnedLeft(d, 21) ^ a;
            c += b;
            b = turnedLeft(b, 17) ^ c;
            c = turnedLeft(c, 32);
        }

        private static long turnedLeft(long x, int n) {
            return (x << n) | (x >>> (64 - n));
        }
    }

    /** Each server's list of places, in the order in which the server wants them. */
    private static final class Lists {
        final int size;
        private final int[] first;
        private final int[] step;

        Lists(int servers, int size, Digester digester) {
            this.size = size;
            this.first = new int[servers];
            this.step = new int[servers];
            for (int k = 0; k < servers; k++) {
                long g = digester.digestOf(k);
                first[k] = (int) ((g >>> 32) % size);
                step[k] = (int) (1 + (g & LOWER_HALF_OF_LONG) % (size - 1));
            }
        }

        int placeAt(int k, int j) {
            return (first[k] + j * step[k]) % size;
        }
    }

    private static final class Table {
        int changes;
        private final Lists lists;
        private final int[] owners;
        private final int[] ownersBefore;
        // No place of server k's list before the nextInList[k]th is free.
        private final int[] nextInList;

        Table(int servers, Lists lists) {
            this.lists = lists;
            this.owners = new int[lists.size];
            this.ownersBefore = new int[lists.size];
            this.nextInList = new int[servers];
        }

        int serverAt(int p) {
            return owners[p];
        }

        int placesOf(int k) {
            int count = 0;
            for (int p = 0; p < owners.length; p++) {
                if (owners[p] == k) {
                    count++;
                }
            }
            return count;
        }

        void fillAnew(Watch watch) {
            System.arraycopy(owners, 0, ownersBefore, 0, owners.length);
            fill(watch);
            changes = 0;
            for (int p = 0; p < owners.length; p++) {
                if (owners[p] != ownersBefore[p]) {
                    changes++;
                }
            }
        }

        void fill(Watch watch) {
            Arrays.fill(owners, NONE);
            Arrays.fill(nextInList, 0);
            int given = 0;
            // With one server up or more, each turn of all gives a place at least.
            for (int turn = 0; turn < owners.length; turn++) {
                for (int k = 0; k < nextInList.length; k++) {
                    if (watch.isUp(k) && given < owners.length) {
                        owners[takeFirstFree(k)] = k;
                        given++;
                    }
                }
            }
        }

        private int takeFirstFree(int k) {
            int j = nextInList[k];
            while (j < owners.length && owners[lists.placeAt(k, j)] != NONE) {
                j++;
            }
            nextInList[k] = j + 1;
            return lists.placeAt(k, j);
        }
    }

    private static final class Watch {
        private static final int ENOUGH = 3;
        private static final int DOWN = 10;
        private final boolean[] up;
        // Misses of a server that is held up, answers of one that is held down.
        private final int[] contrary;

        Watch(int servers) {
            this.up = new boolean[servers];
            this.contrary = new int[servers];
            for (int k = 0; k < servers; k++) {
                up[k] = true;
            }
        }

        boolean isUp(int k) {
            return up[k];
        }

        int stateOf(int k) {
            return up[k] ? contrary[k] : DOWN + contrary[k];
        }

        /** Answers whether the server is held otherwise than before. */
        boolean observe(int k, boolean answers) {
            contrary[k] = answers == up[k] ? 0 : contrary[k] + 1;
            if (contrary[k] < ENOUGH) {
                return false;
            }
            up[k] = answers;
            contrary[k] = 0;
            return true;
        }
    }

    /** Numbered slots for a fixed number of connections. */
    private static final class Slots {
        private final int[] sources;
        private final int[] ports;
        private final boolean[] inUse;
        private int count;

        Slots(int limit) {
            this.sources = new int[limit];
            this.ports = new int[limit];
            this.inUse = new boolean[limit];
        }

        int used() {
            return count;
        }

        int find(int source, int port) {
            for (int slot = 0; slot < inUse.length; slot++) {
                if (inUse[slot] && sources[slot] == source && ports[slot] == port) {
                    return slot;
                }
            }
            return NONE;
        }

        /** The slot of the connection, a new one if need be; NONE when all are in use by others. */
        int findOrTake(int source, int port) {
            int found = find(source, port);
            if (found != NONE) {
                return found;
            }
            for (int slot = 0; slot < inUse.length; slot++) {
                if (!inUse[slot]) {
                    inUse[slot] = true;
                    sources[slot] = source;
                    ports[slot] = port;
                    count++;
                    return slot;
                }
            }
            return NONE;
        }

        void release(int slot) {
            if (inUse[slot]) {
                inUse[slot] = false;
                count--;
            }
        }

        void releaseAll() {
            for (int slot = 0; slot < inUse.length; slot++) {
                release(slot);
            }
        }
    }

    private static final class Entries {
        private static final int LIMIT = 8;
        private static final int OPENING_PATIENCE = 4;
        private static final int OPEN_PATIENCE = 16;
        private static final int CLOSING_PATIENCE = 2;
        final Slots slots = new Slots(LIMIT);
        private final int[] servers = new int[LIMIT];
        // A phase is told by its patience alone: nothing else depends on it.
        private final int[] patience = new int[LIMIT];
        private final int[] latestUse = new int[LIMIT];

        int serverOf(int source, int ports) {
            int slot = slots.find(source, ports);
            return slot == NONE ? NONE : servers[slot];
        }

        void note(int source, int ports, int server, int flags, int time) {
            int slot = flags == GREETING ? slots.findOrTake(source, ports) : slots.find(source, ports);
            if (slot == NONE) {
                return;
            }
            if (flags == BREAK) {
                slots.release(slot);
                return;
            }
            // An old entry has this server already: the segment went by it.
            servers[slot] = server;
            patience[slot] = patienceAfter(flags);
            latestUse[slot] = time;
        }

        void removeStale(int time) {
            for (int slot = 0; slot < LIMIT; slot++) {
                if (time - latestUse[slot] > patience[slot]) {
                    slots.release(slot);
                }
            }
        }

        void removeForServersDown(Watch watch) {
            for (int slot = 0; slot < LIMIT; slot++) {
                if (!watch.isUp(servers[slot])) {
                    slots.release(slot);
                }
            }
        }

        private static int patienceAfter(int flags) {
            if (flags == GREETING) {
                return OPENING_PATIENCE;
            }
            return flags == DATA ? OPEN_PATIENCE : CLOSING_PATIENCE;
        }
    }

    private static final class Balancer {
        private static final int FIRST_STAMP = 65530;
        final Watch watch;
        final Table table;
        final Entries entries = new Entries();
        final Stamp stamp = new Stamp(FIRST_STAMP);
        boolean isLive = true;
        private final boolean[] cut;

        Balancer(int servers, Lists lists) {
            this.watch = new Watch(servers);
            this.table = new Table(servers, lists);
            this.cut = new boolean[servers];
            table.fill(watch);
        }

        boolean setLive(boolean on) {
            if (isLive == on) {
                return false;
            }
            isLive = on;
            if (!on) {
                entries.slots.releaseAll();
            }
            return true;
        }

        boolean setPath(int k, boolean whole) {
            boolean changes = cut[k] == whole;
            cut[k] = !whole;
            return changes;
        }

        boolean reaches(int k, Server server) {
            return server.isOn && !cut[k];
        }

        int serverFor(int source, int ports, int p) {
            int server = entries.serverOf(source, ports);
            return server == NONE ? table.serverAt(p) : server;
        }

        int probeAll(Server[] servers) {
            int changed = 0;
            for (int k = 0; k < servers.length; k++) {
                if (watch.observe(k, reaches(k, servers[k]))) {
                    changed++;
                }
            }
            if (changed > 0) {
                entries.removeForServersDown(watch);
                table.fillAnew(watch);
            }
            return changed;
        }
    }

    private static final class Server {
        private static final int LIMIT = 10;
        final Slots slots = new Slots(LIMIT);
        final Stamp stamp = new Stamp(0);
        boolean isOn = true;
        int takenAtReply;
        private final int[] nextNumber = new int[LIMIT];
        private final int[] dataTaken = new int[LIMIT];

        boolean setOn(boolean on) {
            if (isOn == on) {
                return false;
            }
            isOn = on;
            if (!on) {
                slots.releaseAll();
            }
            return true;
        }

        int receive(int source, int ports, int sequence, int flags) {
            takenAtReply = 0;
            if (flags == GREETING) {
                return greet(slots.findOrTake(source, ports), sequence);
            }
            int slot = slots.find(source, ports);
            if (flags == BREAK) {
                if (slot != NONE) {
                    slots.release(slot);
                }
                return NOTHING;
            }
            return slot == NONE ? REFUSAL : goOn(slot, sequence, flags);
        }

        private int greet(int slot, int sequence) {
            if (slot == NONE) {
                return REFUSAL;
            }
            nextNumber[slot] = sequence + 1;
            dataTaken[slot] = 0;
            return WELCOME;
        }

        private int goOn(int slot, int sequence, int flags) {
            boolean expected = sequence == nextNumber[slot];
            if (expected && flags == DATA) {
                nextNumber[slot]++;
                dataTaken[slot]++;
            }
            takenAtReply = dataTaken[slot];
            if (!expected) {
                return AGAIN;
            }
            if (flags == DATA) {
                return TAKEN;
            }
            slots.release(slot);
            return FAREWELL;
        }
    }

    /** The stamps of one sender, from 0 again after 65535. */
    private static final class Stamp {
        private int following;

        Stamp(int first) {
            this.following = first;
        }

        int next() {
            int stamp = following;
            following = (stamp + 1) & LOWER_HALF;
            return stamp;
        }
    }

    private static final class Wire {
        private static final int WORDS = 16;
        private static final int KEPT_AT = 6;
        private static final int ANSWER_AT = 11;
        private final int[] words = new int[WORDS];

        int word(int k) {
            return k >= 0 && k < WORDS ? words[k] : 0;
        }

        void putForward(int[] kept, int stamp, int b, int k) {
            words[0] = 0x45000000 + 24 + (kept[0] & LOWER_HALF);
            words[1] = stamp * 65536;
            words[2] = 0x402F0000;
            words[3] = FIRST_BALANCER_ADDRESS + b;
            words[4] = FIRST_SERVER_ADDRESS + k;
            words[5] = 0x800;
            putChecksum(0);
            System.arraycopy(kept, 0, words, KEPT_AT, kept.length);
        }

        void putAnswer(int stamp, int source) {
            words[ANSWER_AT] = 0x45000028;
            words[ANSWER_AT + 1] = stamp * 65536;
            words[ANSWER_AT + 2] = 0x40060000;
            words[ANSWER_AT + 3] = SERVICE_ADDRESS;
            words[ANSWER_AT + 4] = source;
            putChecksum(ANSWER_AT);
        }

        void clearAnswer() {
            for (int k = ANSWER_AT; k < WORDS; k++) {
                words[k] = 0;
            }
        }

        private void putChecksum(int at) {
            words[at + 2] += Sums.rightChecksum(
                    words[at], words[at + 1], words[at + 2], words[at + 3], words[at + 4]);
        }
    }
}
