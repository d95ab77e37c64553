import java.util.ArrayList;
import java.util.List;

/** All rows of the numbers 0 .. n - 1, the lesser ones first. */
final class Permutations {
    private static final List<List<int[]>> KEPT = new ArrayList<>();

    private Permutations() {
    }

    static List<int[]> of(int n) {
        while (KEPT.size() <= n) {
            List<int[]> rows = new ArrayList<>();
            fill(new int[KEPT.size()], 0, 0, rows);
            KEPT.add(rows);
        }
        return KEPT.get(n);
    }

    private static void fill(int[] row, int place, int used, List<int[]> rows) {
        if (place == row.length) {
            rows.add(row.clone());
            return;
        }
        for (int v = 0; v < row.length; v++) {
            if ((used & 1 << v) == 0) {
                row[place] = v;
                fill(row, place + 1, used | 1 << v, rows);
            }
        }
    }
}
