import java.util.ArrayList;
import java.util.List;

/** The edges of the form: for each number of each op what is taken, and what is refused beside it. */
final class Forms {
    private static final int MIN = Integer.MIN_VALUE;
    private static final int MAX = Integer.MAX_VALUE;

    // Of d, a and b by op: a register, an int, a place, a set, or not said.
    private static final String[] SAID = {
        "---", "ri-", "rr-", "rrr", "rrr", "rrr", "rrr", "rrr", "-p-", "-rp", "-s-",
    };

    private Forms() {
    }

    /** Rows of op, d, a, b that have the form, each with one number at an edge. */
    static List<int[]> taken() {
        List<int[]> rows = new ArrayList<>();
        for (int op = 0; op <= 10; op++) {
            for (int number = 1; number <= 3; number++) {
                for (int edge : takenAs(kind(op, number))) {
                    rows.add(row(op, number, edge));
                }
            }
        }
        return rows;
    }

    /** Rows of op, d, a, b that have not the form by one number alone. */
    static List<int[]> refused() {
        List<int[]> rows = new ArrayList<>();
        for (int op : new int[] {-1, 11, MIN, MAX}) {
            rows.add(new int[] {op, 0, 0, 0});
        }
        for (int op = 0; op <= 10; op++) {
            for (int number = 1; number <= 3; number++) {
                int most = most(kind(op, number));
                if (most >= 0) {
                    for (int edge : new int[] {MIN, -1, most + 1, MAX}) {
                        rows.add(row(op, number, edge));
                    }
                }
            }
        }
        return rows;
    }

    /** The row as it is kept: numbers that its op does not say are 0. */
    static int[] kept(int[] row) {
        int[] kept = row.clone();
        for (int number = 1; number <= 3; number++) {
            if (kind(row[0], number) == '-') {
                kept[number] = 0;
            }
        }
        return kept;
    }

    static String written(int[] row) {
        return "(" + row[0] + ", " + row[1] + ", " + row[2] + ", " + row[3] + ")";
    }

    private static char kind(int op, int number) {
        return SAID[op].charAt(number - 1);
    }

    private static int[] row(int op, int number, int edge) {
        int[] row = {op, 0, 0, 0};
        row[number] = edge;
        return row;
    }

    private static int[] takenAs(char kind) {
        int most = most(kind);
        return most < 0 ? new int[] {MIN, -1, 0, 1, MAX} : new int[] {0, 1, most - 1, most};
    }

    /** The greatest that is taken, or -1 where every int is. */
    private static int most(char kind) {
        switch (kind) {
            case 'r':
                return 4;
            case 'p':
                return 19;
            case 's':
                return 31;
            default:
                return -1;
        }
    }
}
