/** Makes objects for tests from instructions that are written as rows of op, d, a, b. */
final class Programs {
    private Programs() {
    }

    static BlockCode added(int[]... rows) {
        BlockCode code = new BlockCode();
        addAll(code, rows);
        return code;
    }

    static BlockCode sealed(int[]... rows) {
        BlockCode code = added(rows);
        if (code.seal() < 0) {
            throw new AssertionError("a test's program cannot be sealed");
        }
        return code;
    }

    static void addAll(BlockCode code, int[]... rows) {
        for (int i = 0; i < rows.length; i++) {
            if (code.add(rows[i][0], rows[i][1], rows[i][2], rows[i][3]) < 0) {
                throw new AssertionError("a test's instruction " + i + " is refused");
            }
        }
    }

    static int[] nothing() {
        return new int[] {0, 0, 0, 0};
    }

    static int[] set(int d, int value) {
        return new int[] {1, d, value, 0};
    }

    static int[] copy(int d, int a) {
        return new int[] {2, d, a, 0};
    }

    static int[] plus(int d, int a, int b) {
        return new int[] {3, d, a, b};
    }

    static int[] minus(int d, int a, int b) {
        return new int[] {4, d, a, b};
    }

    static int[] times(int d, int a, int b) {
        return new int[] {5, d, a, b};
    }

    static int[] divided(int d, int a, int b) {
        return new int[] {6, d, a, b};
    }

    static int[] less(int d, int a, int b) {
        return new int[] {7, d, a, b};
    }

    static int[] go(int a) {
        return new int[] {8, 0, a, 0};
    }

    static int[] branch(int a, int b) {
        return new int[] {9, 0, a, b};
    }

    static int[] end(int set) {
        return new int[] {10, 0, set, 0};
    }
}
