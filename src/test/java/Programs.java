import java.util.Random;

/** Makes objects for tests from instructions that are written as rows of op, d, a, b. */
final class Programs {
    /** Ints that are worth drawing: small ones, edges, and 65536, whose square wraps to 0. */
    static final int[] INTS = {0, 0, 1, 1, -1, 2, 3, -7, 65536, Integer.MIN_VALUE, Integer.MAX_VALUE};

    private Programs() {
    }

    static BlockCode added(int[]... rows) {
        BlockCode code = new BlockCode();
        addAll(code, rows);
        return code;
    }

    static BlockCode sealed(int[]... rows) {
        BlockCode code = added(rows);
        if (code.seal() < 0) {
            throw new AssertionError("a test's program cannot be sealed");
        }
        return code;
    }

    static void addAll(BlockCode code, int[]... rows) {
        for (int i = 0; i < rows.length; i++) {
            if (code.add(rows[i][0], rows[i][1], rows[i][2], rows[i][3]) < 0) {
                throw new AssertionError("a test's instruction " + i + " is refused");
            }
        }
    }

    /** As many rows as said: the first ones, then rows that do nothing, then the last one. */
    static int[][] filled(int length, int[] last, int[]... first) {
        int[][] rows = new int[length][];
        for (int i = 0; i < length - 1; i++) {
            rows[i] = i < first.length ? first[i] : nothing();
        }
        rows[length - 1] = last;
        return rows;
    }

    static int[] nothing() {
        return new int[] {0, 0, 0, 0};
    }

    static int[] set(int d, int value) {
        return new int[] {1, d, value, 0};
    }

    static int[] copy(int d, int a) {
        return new int[] {2, d, a, 0};
    }

    static int[] plus(int d, int a, int b) {
        return new int[] {3, d, a, b};
    }

    static int[] minus(int d, int a, int b) {
        return new int[] {4, d, a, b};
    }

    static int[] times(int d, int a, int b) {
        return new int[] {5, d, a, b};
    }

    static int[] divided(int d, int a, int b) {
        return new int[] {6, d, a, b};
    }

    static int[] less(int d, int a, int b) {
        return new int[] {7, d, a, b};
    }

    static int[] go(int a) {
        return new int[] {8, 0, a, 0};
    }

    static int[] branch(int a, int b) {
        return new int[] {9, 0, a, b};
    }

    static int[] end(int set) {
        return new int[] {10, 0, set, 0};
    }

    static int drawnInt(Random random) {
        return INTS[random.nextInt(INTS.length)];
    }

    /** An instruction that has the form, over the first registers and instructions alone. */
    static int[] drawn(Random random, int op, int registers, int length) {
        int a = random.nextInt(registers);
        int b = random.nextInt(registers);
        if (op == 1) {
            a = drawnInt(random);
        } else if (op == 8) {
            a = random.nextInt(length);
        } else if (op == 9) {
            b = random.nextInt(length);
        } else if (op == 10) {
            a = random.nextInt(32);
        }
        return new int[] {op, random.nextInt(registers), a, b};
    }
}
