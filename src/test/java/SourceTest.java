/** Promises 1 to 7: a new object, add, clear, seal, size, source, result. */
public final class SourceTest {
    private static final int MIN = Integer.MIN_VALUE;
    private static final int MAX = Integer.MAX_VALUE;
    private static final Checks checks = new Checks();

    public static void main(String[] args) {
        newObject();
        addTakesForms();
        addLeavesOutNumbers();
        addRefusesForms();
        addRefusesBeyondTwenty();
        addThrowsWhenSealed();
        clearForgets();
        sealCountsBlocks();
        sealRefuses();
        sourceAndResultAnswer();
        checks.end("SourceTest");
    }

    private static void newObject() {
        BlockCode code = new BlockCode();
        checks.due("1: size", code.size(), 0);
        checks.due("1: source", code.source(0, 0), -9);
        checks.due("1: result", code.result(0, 0), -9);
        checks.due("1: known", code.known(0, 0), 4294967298L);
        checks.due("1: needed", code.needed(0), -9);
        checks.due("1: poke", code.poke(0, 0, 0, 0, 0), false);
        checks.due("1: commit", code.commit(), false);
        checks.due("1: runSource", code.runSource(1), -1);
        checks.due("1: runResult", code.runResult(1), -1);
        checks.due("1: steps", code.steps(), 0);
        for (int r = -1; r <= 5; r++) {
            checks.due("1: told", code.told(r), 0);
        }
        Programs.addAll(code, Programs.end(31));
        code.seal();
        checks.due("1: run", code.runSource(1), 0);
        for (int r = 0; r < 5; r++) {
            checks.due("1: input of " + r, code.told(r), 0);
        }
    }

    private static void addTakesForms() {
        int[][] rows = {
            {0, 0, 0, 0}, {1, 4, MIN, 0}, {1, 0, MAX, 0}, {2, 4, 4, 0}, {3, 0, 0, 4}, {4, 4, 4, 4},
            {5, 1, 2, 3}, {6, 3, 2, 1}, {7, 0, 4, 0}, {8, 0, 0, 0}, {8, 0, 19, 0}, {9, 0, 4, 19},
            {9, 0, 0, 0}, {10, 0, 0, 0}, {10, 0, 31, 0},
        };
        BlockCode code = new BlockCode();
        for (int i = 0; i < rows.length; i++) {
            int[] row = rows[i];
            checks.due("2: add " + i, code.add(row[0], row[1], row[2], row[3]), i);
            checks.due("5: size", code.size(), i + 1);
            for (int field = 0; field < 4; field++) {
                checks.due("6: field " + field + " of " + i, code.source(i, field), row[field]);
            }
        }
    }

    private static void addLeavesOutNumbers() {
        int[][] given = {
            {0, 9, 8, 7}, {1, 2, 77, 99}, {2, 1, 3, -5}, {8, -1, 6, MAX}, {9, 55, 2, 7}, {10, MIN, 9, 66},
        };
        int[][] taken = {
            {0, 0, 0, 0}, {1, 2, 77, 0}, {2, 1, 3, 0}, {8, 0, 6, 0}, {9, 0, 2, 7}, {10, 0, 9, 0},
        };
        BlockCode code = new BlockCode();
        for (int i = 0; i < given.length; i++) {
            checks.due("2: add", code.add(given[i][0], given[i][1], given[i][2], given[i][3]), i);
            for (int field = 0; field < 4; field++) {
                checks.due("2: number " + field + " of " + i, code.source(i, field), taken[i][field]);
            }
        }
    }

    private static void addRefusesForms() {
        BlockCode code = new BlockCode();
        int[] wrongRegisters = {-1, 5, MIN, MAX};
        int[] wrongPlaces = {-1, 20, MIN, MAX};
        for (int wrong : wrongRegisters) {
            for (int op = 1; op <= 7; op++) {
                checks.due("2: d of " + op + " is " + wrong, code.add(op, wrong, 0, 0), -1);
            }
            for (int op = 2; op <= 7; op++) {
                checks.due("2: a of " + op + " is " + wrong, code.add(op, 0, wrong, 0), -1);
            }
            for (int op = 3; op <= 7; op++) {
                checks.due("2: b of " + op + " is " + wrong, code.add(op, 0, 0, wrong), -1);
            }
            checks.due("2: a of 9 is " + wrong, code.add(9, 0, wrong, 0), -1);
        }
        for (int wrong : wrongPlaces) {
            checks.due("2: a of 8 is " + wrong, code.add(8, 0, wrong, 0), -1);
            checks.due("2: b of 9 is " + wrong, code.add(9, 0, 0, wrong), -1);
        }
        for (int wrong : new int[] {-1, 32, MIN, MAX}) {
            checks.due("2: a of 10 is " + wrong, code.add(10, 0, wrong, 0), -1);
        }
        for (int wrong : new int[] {-1, 11, MIN, MAX}) {
            checks.due("2: op " + wrong, code.add(wrong, 0, 0, 0), -1);
        }
        checks.due("2: what is refused is not appended", code.size(), 0);
    }

    private static void addRefusesBeyondTwenty() {
        BlockCode code = new BlockCode();
        for (int i = 0; i < 19; i++) {
            checks.due("2: add", code.add(0, 0, 0, 0), i);
        }
        checks.due("2: the twentieth", code.add(10, 0, 0, 0), 19);
        checks.due("2: one more", code.add(0, 0, 0, 0), -2);
        checks.due("2: one more without the form", code.add(11, 0, 0, 0), -1);
        checks.due("2: one more without the form", code.add(2, 0, 5, 0), -1);
        checks.due("5: size", code.size(), 20);
        checks.due("6: the last", code.source(19, 0), 10);
        checks.due("6: behind the last", code.source(20, 0), -9);
        checks.due("4: seal of twenty", code.seal(), 1);
        checks.dueState("2: full and sealed", () -> code.add(0, 0, 0, 0));
    }

    private static void addThrowsWhenSealed() {
        BlockCode code = Programs.sealed(Programs.end(1));
        checks.dueState("2: sealed", () -> code.add(10, 0, 1, 0));
        checks.dueState("2: sealed and without the form", () -> code.add(11, 0, 0, 0));
        checks.due("5: size", code.size(), 1);
    }

    private static void clearForgets() {
        BlockCode code = Programs.sealed(Programs.set(1, 5), Programs.end(3));
        code.input(0, 7);
        checks.due("3: run", code.runSource(9), 0);
        checks.due("3: compare", code.compare(), 0);
        code.clear();
        checks.due("3: size", code.size(), 0);
        checks.due("3: source", code.source(0, 0), -9);
        checks.due("3: result", code.result(0, 0), -9);
        checks.due("3: known", code.known(0, 0), 4294967298L);
        checks.due("3: needed", code.needed(0), -9);
        checks.due("3: commit", code.commit(), false);
        checks.due("3: poke", code.poke(0, 0, 0, 0, 0), false);
        checks.due("3: runSource", code.runSource(9), -1);
        checks.due("3: runResult", code.runResult(9), -1);
        checks.dueState("3: compare", code::compare);
        checks.due("3: the latest run stays", code.told(0), 7);
        checks.due("3: the latest run stays", code.told(1), 5);
        checks.due("3: the latest run stays", code.steps(), 2);
        checks.due("3: add", code.add(10, 0, 1, 0), 0);
        checks.due("3: seal", code.seal(), 1);
        checks.due("3: a comparison from before does not count", code.commit(), false);
        checks.due("3: run", code.runSource(9), 0);
        checks.due("3: inputs stay", code.told(0), 7);
        BlockCode unsealed = Programs.added(Programs.nothing());
        unsealed.clear();
        unsealed.clear();
        checks.due("3: clear where it is not sealed", unsealed.size(), 0);
    }

    private static void sealCountsBlocks() {
        checks.due("4: an end alone", Programs.added(Programs.end(0)).seal(), 1);
        checks.due("4: a loop of one", Programs.added(Programs.go(0)).seal(), 1);
        checks.due("4: behind an 8", Programs.added(
                Programs.nothing(), Programs.go(0), Programs.end(0)).seal(), 2);
        checks.due("4: behind a 9 and what it names", Programs.added(
                Programs.branch(0, 3), Programs.nothing(), Programs.nothing(), Programs.nothing(),
                Programs.end(0)).seal(), 3);
        checks.due("4: a 9 that names the next", Programs.added(
                Programs.branch(0, 1), Programs.end(0)).seal(), 2);
        checks.due("4: behind a 10", Programs.added(
                Programs.end(0), Programs.nothing(), Programs.end(0)).seal(), 2);
        checks.due("4: an 8 that names the middle", Programs.added(
                Programs.nothing(), Programs.nothing(), Programs.go(1)).seal(), 2);
        checks.due("4: what an instruction not reached names", Programs.added(
                Programs.go(4), Programs.go(3), Programs.nothing(), Programs.nothing(),
                Programs.nothing(), Programs.end(0)).seal(), 5);
        int[][] ends = new int[20][];
        for (int i = 0; i < 20; i++) {
            ends[i] = Programs.go(19 - i);
        }
        checks.due("4: twenty blocks", Programs.added(ends).seal(), 20);
        BlockCode code = Programs.sealed(Programs.copy(1, 2), Programs.end(2));
        checks.due("4: the result becomes the source", code.result(0, 0), 2);
        checks.due("4: the result becomes the source", code.result(0, 1), 1);
        checks.due("4: the result becomes the source", code.result(0, 2), 2);
        checks.due("4: the result becomes the source", code.result(1, 0), 10);
        checks.dueState("4: sealed", code::seal);
    }

    private static void sealRefuses() {
        checks.due("4: empty", new BlockCode().seal(), -1);
        for (int op = 0; op <= 10; op++) {
            BlockCode code = new BlockCode();
            code.add(op, 0, 0, 0);
            checks.due("4: last op " + op, code.seal(), op == 8 || op == 10 ? 1 : -1);
        }
        checks.due("4: an 8 names behind the last",
                Programs.added(Programs.go(2), Programs.end(0)).seal(), -1);
        checks.due("4: a 9 names behind the last",
                Programs.added(Programs.branch(0, 2), Programs.end(0)).seal(), -1);
        checks.due("4: an 8 names the last",
                Programs.added(Programs.go(1), Programs.end(0)).seal(), 2);
        BlockCode code = Programs.added(Programs.branch(0, 2));
        checks.due("4: cannot be sealed yet", code.seal(), -1);
        checks.due("4: no result", code.result(0, 0), -9);
        checks.due("4: not sealed", code.needed(0), -9);
        Programs.addAll(code, Programs.nothing(), Programs.end(0));
        checks.due("4: can be sealed now", code.seal(), 3);
    }

    private static void sourceAndResultAnswer() {
        BlockCode code = Programs.added(Programs.plus(1, 2, 3), Programs.branch(4, 2));
        checks.due("5: size", code.size(), 2);
        checks.due("6: b", code.source(1, 3), 2);
        checks.due("7: no result yet", code.result(0, 0), -9);
        Programs.addAll(code, Programs.end(5));
        code.seal();
        code.poke(0, 1, 4, -9, 0);
        int[][] source = {{3, 1, 2, 3}, {9, 0, 4, 2}, {10, 0, 5, 0}};
        int[][] result = {{1, 4, -9, 0}, {9, 0, 4, 2}, {10, 0, 5, 0}};
        for (int i = 0; i < 3; i++) {
            for (int field = 0; field < 4; field++) {
                checks.due("6: source", code.source(i, field), source[i][field]);
                checks.due("7: result", code.result(i, field), result[i][field]);
            }
            for (int field : new int[] {-1, 4, MIN, MAX}) {
                checks.due("6: another field", code.source(i, field), 0);
                checks.due("7: another field", code.result(i, field), 0);
            }
        }
        for (int i : new int[] {-1, 3, 19, 20, MIN, MAX}) {
            for (int field = -1; field <= 4; field++) {
                checks.due("6: no such instruction", code.source(i, field), -9);
                checks.due("7: no such instruction", code.result(i, field), -9);
            }
        }
        checks.due("5: size", code.size(), 3);
    }
}
