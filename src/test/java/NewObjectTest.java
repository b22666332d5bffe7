import java.util.List;
import java.util.stream.Collectors;
import java.util.stream.IntStream;

/** Promise 1: a new object. */
public final class NewObjectTest {
    private static final Checks CHECKS = new Checks();

    public static void main(String[] args) {
        numbers(1, 1, 1, 1);
        numbers(3, 5, 3, 5);
        numbers(4, 8, 4, 8);
        numbers(5, 9, 4, 8);
        numbers(0, 0, 1, 1);
        numbers(-7, Integer.MIN_VALUE, 1, 1);
        numbers(Integer.MAX_VALUE, Integer.MAX_VALUE, 4, 8);
        for (int size = -3; size <= 110; size++) {
            tables(2, 3, size, 5 * size - 9);
        }
        tables(4, 8, Integer.MAX_VALUE, Integer.MIN_VALUE);
        tables(1, 1, Integer.MIN_VALUE, Integer.MAX_VALUE);
        allIsWell();
        nothingWasSent();
        CHECKS.end();
    }

    private static void numbers(int balancers, int servers, int b, int s) {
        PacketSpreader x = new PacketSpreader(balancers, servers, 7, 1);
        String made = " of " + balancers + ", " + servers;
        CHECKS.due("the last balancer" + made, x.moved(b - 1), 0);
        CHECKS.due("one balancer more" + made, x.moved(b), PacketSpreader.NONE);
        CHECKS.due("the last server" + made, x.held(0, s - 1), 0);
        CHECKS.due("one server more" + made, x.held(0, s), PacketSpreader.NONE);
    }

    private static void tables(int balancers, int servers, int size, int key) {
        PacketSpreader x = new PacketSpreader(balancers, servers, size, key);
        int m = Reference.prime(size);
        List<Integer> all = IntStream.range(0, servers).boxed().collect(Collectors.toList());
        int[] table = Reference.table(key, m, all);
        for (int b = 0; b < balancers; b++) {
            for (int p = 0; p < m; p++) {
                CHECKS.due("size " + size + ", place(" + b + ", " + p + ")", x.place(b, p), table[p]);
            }
            CHECKS.due("size " + size + ", place(" + b + ", M)", x.place(b, m), PacketSpreader.NONE);
        }
    }

    private static void allIsWell() {
        PacketSpreader x = new PacketSpreader(4, 8, 31, 3);
        for (int k = 0; k < 8; k++) {
            CHECKS.due("power(" + k + ", true) at first", x.power(k, true), false);
            for (int b = 0; b < 4; b++) {
                CHECKS.due("live(" + b + ", true) at first", x.live(b, true), false);
                CHECKS.due("path(.., true) at first", x.path(b, k, true), false);
                CHECKS.due("held at first", x.held(b, k), 0);
                CHECKS.due("load at first", x.load(b, k), 0);
            }
        }
    }

    private static void nothingWasSent() {
        PacketSpreader x = new PacketSpreader(1, 1, 7, 0);
        CHECKS.due("segment without a header", x.segment(1, 1, Scene.GREETING), -2);
        CHECKS.due("carrier()", x.carrier(), PacketSpreader.NONE);
        CHECKS.due("reply()", x.reply(), PacketSpreader.NONE);
        CHECKS.due("taken()", x.taken(), PacketSpreader.NONE);
        for (int k = -1; k <= 16; k++) {
            CHECKS.due("wire(" + k + ")", x.wire(k), 0);
        }
    }
}
