import java.util.ArrayList;
import java.util.List;

/** Promises 10 to 12: place, share and moved. */
public final class TableTest {
    private static final Checks CHECKS = new Checks();
    private static final int NONE = PacketSpreader.NONE;

    public static void main(String[] args) {
        for (int mask = 0; mask < 32; mask++) {
            fillings(mask, 29, -40 + mask);
        }
        fillings(0x15, 7, 5);
        fillings(0x0A, 101, 6);
        movedCountsTheLastFilling();
        tablesAreEachBalancersOwn();
        wrongNumbers();
        CHECKS.end();
    }

    /** The servers of the mask are switched off, and on again. */
    private static void fillings(int mask, int m, int key) {
        PacketSpreader x = new PacketSpreader(1, 5, m, key);
        List<Integer> all = new ArrayList<>();
        List<Integer> up = new ArrayList<>();
        for (int k = 0; k < 5; k++) {
            all.add(k);
            if ((mask >> k & 1) == 0) {
                up.add(k);
            }
            x.power(k, (mask >> k & 1) == 0);
        }
        int[] before = Reference.table(key, m, all);
        int[] after = Reference.table(key, m, up);
        Scene.probe(x, 0, 2);
        dueTable(x, before, 0);
        Scene.probe(x, 0, 1);
        int moved = differences(before, after);
        dueTable(x, after, moved);
        for (int k = 0; k < 5; k++) {
            x.power(k, true);
        }
        Scene.probe(x, 0, 2);
        dueTable(x, after, moved);
        Scene.probe(x, 0, 1);
        dueTable(x, before, moved);
    }

    private static int differences(int[] one, int[] other) {
        int count = 0;
        for (int p = 0; p < one.length; p++) {
            count += one[p] != other[p] ? 1 : 0;
        }
        return count;
    }

    private static void dueTable(PacketSpreader x, int[] table, int moved) {
        int[] shares = new int[5];
        for (int p = 0; p < table.length; p++) {
            CHECKS.due("place(0, " + p + ")", x.place(0, p), table[p]);
            if (table[p] != NONE) {
                shares[table[p]]++;
            }
        }
        for (int k = 0; k < 5; k++) {
            CHECKS.due("share(0, " + k + ")", x.share(0, k), shares[k]);
        }
        CHECKS.due("moved(0)", x.moved(0), moved);
    }

    private static void movedCountsTheLastFilling() {
        PacketSpreader x = new PacketSpreader(1, 1, 13, 8);
        CHECKS.due("moved at first", x.moved(0), 0);
        x.power(0, false);
        Scene.probe(x, 0, 3);
        CHECKS.due("moved to none", x.moved(0), 13);
        Scene.probe(x, 0, 3);
        CHECKS.due("moved stays without a filling", x.moved(0), 13);
        x.power(0, true);
        Scene.probe(x, 0, 3);
        CHECKS.due("moved from none", x.moved(0), 13);
    }

    private static void tablesAreEachBalancersOwn() {
        PacketSpreader x = new PacketSpreader(2, 2, 13, 8);
        int before = x.share(0, 1);
        x.path(1, 1, false);
        Scene.probe(x, 0, 3);
        Scene.probe(x, 1, 3);
        CHECKS.due("share(0, 1)", x.share(0, 1), before);
        CHECKS.due("moved(0)", x.moved(0), 0);
        CHECKS.due("share(1, 1)", x.share(1, 1), 0);
        CHECKS.due("share(1, 0)", x.share(1, 0), 13);
        CHECKS.due("moved(1) is at least what server 1 had", x.moved(1) >= before, true);
    }

    private static void wrongNumbers() {
        PacketSpreader x = new PacketSpreader(2, 2, 13, 8);
        for (int b : new int[] {-1, 2, 3, Integer.MIN_VALUE, Integer.MAX_VALUE}) {
            CHECKS.due("place(" + b + ", 0)", x.place(b, 0), NONE);
            CHECKS.due("share(" + b + ", 0)", x.share(b, 0), NONE);
            CHECKS.due("moved(" + b + ")", x.moved(b), NONE);
            CHECKS.due("share(0, " + b + ")", x.share(0, b), NONE);
        }
        for (int p : new int[] {-1, 13, 14, Integer.MIN_VALUE, Integer.MAX_VALUE}) {
            CHECKS.due("place(0, " + p + ")", x.place(0, p), NONE);
        }
    }
}
