/** The edges that promises 1 to 7 name, each sentence in a test of its own. */
public final class EdgeSourceTest {
    private static final long NO_FACT = 4294967298L;
    private static final int MIN = Integer.MIN_VALUE;
    private static final int MAX = Integer.MAX_VALUE;
    private static final Checks checks = new Checks();

    public static void main(String[] args) {
        newIsEmpty();
        newIsNotSealed();
        newHasNoResult();
        newHasInputsOfZero();
        newHasNoRun();
        addAnswersThePlace();
        addTakesNumbersNotSaidAsZero();
        addRefusesOps();
        addRefusesForms();
        addRefusesBeyondTwenty();
        addRefusesTheFirstThatHolds();
        addThrowsFirstOfAll();
        clearEmpties();
        clearUnseals();
        clearTakesTheResult();
        clearKeepsInputs();
        sealAnswersTheBlocks();
        sealMakesTheResult();
        sealRefuses();
        sealThrows();
        sizeCounts();
        sourceOfFields();
        sourceOfInstructions();
        resultOfFields();
        resultOfInstructions();
        resultWithoutOne();
        checks.end("EdgeSourceTest");
    }

    private static void newIsEmpty() {
        checks.sentence("1: An empty source");
        BlockCode code = new BlockCode();
        checks.due("size", code.size(), 0);
        for (int i : new int[] {MIN, -1, 0, 1, 19, 20, MAX}) {
            checks.due("source(" + i + ", 0)", code.source(i, 0), -9);
        }
        checks.due("seal", code.seal(), -1);
        checks.due("the first place", code.add(0, 0, 0, 0), 0);
    }

    private static void dueNotSealed(String what, BlockCode code) {
        checks.due(what + ": known", code.known(0, 0), NO_FACT);
        checks.due(what + ": needed", code.needed(0), -9);
        checks.due(what + ": runSource", code.runSource(1), -1);
        checks.due(what + ": runResult", code.runResult(1), -1);
        checks.dueState(what + ": constants", code::constants);
        checks.dueState(what + ": repeats", code::repeats);
        checks.dueState(what + ": unneeded", code::unneeded);
        checks.dueState(what + ": compare", code::compare);
    }

    private static void newIsNotSealed() {
        checks.sentence("1: not sealed");
        BlockCode code = new BlockCode();
        dueNotSealed("new", code);
        checks.due("add", code.add(10, 0, 0, 0), 0);
        dueNotSealed("one instruction", code);
        checks.due("seal", code.seal(), 1);
    }

    private static void dueNoResult(String what, BlockCode code) {
        for (int i : new int[] {-1, 0, 1, 19, 20}) {
            checks.due(what + ": result(" + i + ", 0)", code.result(i, 0), -9);
            checks.due(what + ": poke of " + i, code.poke(i, 0, 0, 0, 0), false);
        }
        checks.due(what + ": commit", code.commit(), false);
    }

    private static void newHasNoResult() {
        checks.sentence("1: no result");
        dueNoResult("new", new BlockCode());
        dueNoResult("one instruction", Programs.added(Programs.end(0)));
        dueNoResult("twenty", Programs.added(Programs.filled(20, Programs.end(0))));
    }

    private static void newHasInputsOfZero() {
        checks.sentence("1: all inputs 0");
        BlockCode other = new BlockCode();
        for (int r = 0; r <= 4; r++) {
            other.input(r, 7);
        }
        BlockCode code = Programs.sealed(Programs.end(31));
        checks.due("run", code.runSource(1), 0);
        for (int r = 0; r <= 4; r++) {
            checks.due("register " + r, code.told(r), 0);
        }
    }

    private static void newHasNoRun() {
        checks.sentence("1: no run");
        BlockCode code = new BlockCode();
        checks.due("steps", code.steps(), 0);
        for (int r = -1; r <= 5; r++) {
            code.input(r, 7);
            checks.due("told(" + r + ")", code.told(r), 0);
        }
        Programs.addAll(code, Programs.end(31));
        code.seal();
        checks.due("steps when it is sealed", code.steps(), 0);
        checks.due("told when it is sealed", code.told(0), 0);
    }

    private static void addAnswersThePlace() {
        checks.sentence("2: Appends an instruction to the source ..: its place");
        BlockCode code = new BlockCode();
        for (int i = 0; i <= 19; i++) {
            checks.due("place " + i, code.add(1, i % 5, 100 + i, 0), i);
            checks.due("size behind place " + i, code.size(), i + 1);
            checks.dueSource("the new one", code, i, 1, i % 5, 100 + i, 0);
            checks.dueSource("the first one", code, 0, 1, 0, 100, 0);
        }
        code.clear();
        checks.due("the first again", code.add(0, 0, 0, 0), 0);
    }

    private static void addTakesNumbersNotSaidAsZero() {
        checks.sentence("2: numbers that its op does not say are taken as 0");
        int[][] given = {{0, MIN, MAX, 5}, {1, 4, MAX, 5}, {2, 4, 3, MIN}, {8, 5, 19, 20}, {9, -1, 4, 19},
            {10, MAX, 31, -1}};
        int[][] taken = {{0, 0, 0, 0}, {1, 4, MAX, 0}, {2, 4, 3, 0}, {8, 0, 19, 0}, {9, 0, 4, 19},
            {10, 0, 31, 0}};
        BlockCode code = new BlockCode();
        for (int i = 0; i < given.length; i++) {
            int[] row = given[i];
            checks.due("add" + Forms.written(row), code.add(row[0], row[1], row[2], row[3]), i);
            checks.dueSource("add" + Forms.written(row), code, i, taken[i]);
        }
    }

    private static void addRefusesOps() {
        checks.sentence("2: -1 op is not 0 .. 10");
        BlockCode code = new BlockCode();
        for (int op : new int[] {MIN, -1, 11, 12, MAX}) {
            checks.due("op " + op, code.add(op, 0, 0, 0), -1);
        }
        checks.due("size", code.size(), 0);
        for (int op = 0; op <= 10; op++) {
            checks.due("op " + op, code.add(op, 0, 0, 0), op);
        }
    }

    private static void addRefusesForms() {
        checks.sentence("2: or it has not the form");
        for (int length : new int[] {0, 1, 19}) {
            for (int[] row : Forms.refused()) {
                BlockCode code = new BlockCode();
                for (int i = 0; i < length; i++) {
                    code.add(0, 0, 0, 0);
                }
                checks.due("add" + Forms.written(row), code.add(row[0], row[1], row[2], row[3]), -1);
                checks.due("size", code.size(), length);
                checks.due("source(" + length + ", 0)", code.source(length, 0), -9);
            }
        }
    }

    private static void addRefusesBeyondTwenty() {
        checks.sentence("2: -2 there are 20");
        for (int[] row : Forms.taken()) {
            BlockCode code = Programs.added(Programs.filled(19, Programs.set(1, 5)));
            checks.due("the 20th", code.add(row[0], row[1], row[2], row[3]), 19);
            checks.due("the 21st", code.add(row[0], row[1], row[2], row[3]), -2);
            checks.due("again", code.add(0, 0, 0, 0), -2);
            checks.due("size", code.size(), 20);
            checks.dueSource("the 19th stays", code, 18, 1, 1, 5, 0);
            checks.dueSource("the 20th stays", code, 19, Forms.kept(row));
        }
    }

    private static void addRefusesTheFirstThatHolds() {
        checks.sentence("2: Refused, first that holds");
        BlockCode code = Programs.added(Programs.filled(20, Programs.end(0)));
        for (int[] row : Forms.refused()) {
            checks.due("full and add" + Forms.written(row), code.add(row[0], row[1], row[2], row[3]), -1);
        }
        checks.due("full alone", code.add(0, 0, 0, 0), -2);
    }

    private static void addThrowsFirstOfAll() {
        checks.sentence("2: IllegalStateException first of all if the source is sealed");
        for (int length : new int[] {1, 19, 20}) {
            BlockCode code = Programs.added(Programs.filled(length, Programs.end(0)));
            checks.due("not sealed", code.add(11, 0, 0, 0), -1);
            code.seal();
            checks.dueState("sealed", () -> code.add(0, 0, 0, 0));
            for (int[] row : Forms.refused()) {
                checks.dueState("add" + Forms.written(row), () -> code.add(row[0], row[1], row[2], row[3]));
            }
            checks.due("size", code.size(), length);
            code.clear();
            checks.due("not sealed any more", code.add(0, 0, 0, 0), 0);
        }
        BlockCode refused = Programs.added(Programs.nothing());
        checks.due("a seal that is refused", refused.seal(), -1);
        checks.due("does not seal", refused.add(10, 0, 0, 0), 1);
    }

    /** Objects that clear finds: empty, begun, full, sealed, changed, committed. */
    private static BlockCode[] pasts() {
        BlockCode changed = Programs.sealed(Programs.set(0, 1), Programs.end(1));
        changed.poke(0, 1, 0, 2, 0);
        BlockCode committed = Programs.sealed(Programs.set(0, 1), Programs.end(0));
        committed.unneeded();
        committed.compare();
        committed.commit();
        committed.compare();
        BlockCode cleared = Programs.sealed(Programs.end(0));
        cleared.clear();
        return new BlockCode[] {
            new BlockCode(), Programs.added(Programs.set(0, 1)),
            Programs.added(Programs.filled(20, Programs.end(1))),
            Programs.sealed(Programs.end(1)), Programs.sealed(Programs.filled(20, Programs.end(1))),
            changed, committed, cleared,
        };
    }

    private static void clearEmpties() {
        checks.sentence("3: The source is empty");
        for (BlockCode code : pasts()) {
            code.clear();
            checks.due("size", code.size(), 0);
            for (int i : new int[] {-1, 0, 1, 19, 20}) {
                checks.due("source(" + i + ", 0)", code.source(i, 0), -9);
            }
            for (int i = 0; i <= 19; i++) {
                checks.due("there is room for 20 again", code.add(10, 0, 0, 0), i);
            }
            checks.due("and not for 21", code.add(10, 0, 0, 0), -2);
        }
    }

    private static void clearUnseals() {
        checks.sentence("3: and not sealed");
        for (BlockCode code : pasts()) {
            code.clear();
            dueNotSealed("cleared", code);
            checks.due("an empty one", code.seal(), -1);
            checks.due("add", code.add(10, 0, 3, 0), 0);
            checks.due("seal", code.seal(), 1);
            checks.due("needed", code.needed(0), 3);
        }
    }

    private static void clearTakesTheResult() {
        checks.sentence("3: there is no result");
        for (BlockCode code : pasts()) {
            code.clear();
            dueNoResult("cleared", code);
            code.add(10, 0, 0, 0);
            dueNoResult("begun again", code);
            code.seal();
            checks.due("a result again", code.result(0, 0), 10);
            checks.due("which is not compared", code.commit(), false);
        }
    }

    private static void clearKeepsInputs() {
        checks.sentence("3: inputs stay");
        for (BlockCode code : pasts()) {
            int[] values = {MIN, -1, 0, 1, MAX};
            for (int r = 0; r <= 4; r++) {
                code.input(r, values[r]);
            }
            code.clear();
            code.clear();
            code.add(10, 0, 31, 0);
            code.seal();
            checks.due("run", code.runSource(1), 0);
            for (int r = 0; r <= 4; r++) {
                checks.due("register " + r, code.told(r), values[r]);
            }
        }
    }

    private static void sealAnswersTheBlocks() {
        checks.sentence("4: Seals the source ..: the number of its blocks");
        for (int blocks = 1; blocks <= 20; blocks++) {
            int[][] ends = new int[blocks][];
            java.util.Arrays.fill(ends, Programs.end(0));
            checks.due("as many ends", Programs.added(ends).seal(), blocks);
            checks.due("as many instructions of one block",
                    Programs.added(Programs.filled(blocks, Programs.end(0))).seal(), 1);
        }
    }

    private static void sealMakesTheResult() {
        checks.sentence("4: and the result becomes the source");
        int[][] rows = new int[20][];
        for (int i = 0; i < 19; i++) {
            rows[i] = i < 11 ? Forms.kept(new int[] {i, 4, 3, 2}) : Programs.set(i % 5, -i);
        }
        rows[19] = Programs.go(19);
        BlockCode code = Programs.added(rows);
        checks.due("no result before", code.result(0, 0), -9);
        code.seal();
        for (int i = 0; i <= 19; i++) {
            checks.dueResult("sealed", code, i, rows[i]);
            checks.dueSource("sealed", code, i, rows[i]);
        }
        checks.due("nothing behind it", code.result(20, 0), -9);
        code.clear();
        Programs.addAll(code, Programs.set(2, 2), Programs.end(3));
        code.seal();
        checks.dueResult("sealed again", code, 0, 1, 2, 2, 0);
        checks.dueResult("sealed again", code, 1, 10, 0, 3, 0);
        checks.due("nothing behind it", code.result(2, 0), -9);
    }

    private static void sealRefuses() {
        checks.sentence("4: -1 if it cannot be sealed");
        BlockCode code = new BlockCode();
        checks.due("empty", code.seal(), -1);
        code.add(9, 0, 0, 3);
        checks.due("a 9 at the end that names behind it", code.seal(), -1);
        code.add(10, 0, 0, 0);
        checks.due("two instructions, 3 is named", code.seal(), -1);
        code.add(10, 0, 0, 0);
        checks.due("three instructions, 3 is named", code.seal(), -1);
        code.add(0, 0, 0, 0);
        checks.due("3 is there, but a 0", code.seal(), -1);
        dueNotSealed("refused", code);
        dueNoResult("refused", code);
        code.add(10, 0, 0, 0);
        checks.due("now it can be sealed", code.seal(), 4);
    }

    private static void sealThrows() {
        checks.sentence("4: IllegalStateException if it is sealed");
        BlockCode code = Programs.added(Programs.end(0));
        checks.due("not sealed", code.seal(), 1);
        checks.dueState("sealed", code::seal);
        checks.dueState("sealed", code::seal);
        code.poke(0, 0, 0, 0, 0);
        checks.dueState("sealed, with another result", code::seal);
        code.poke(0, 10, 0, 0, 0);
        checks.due("compare", code.compare(), 0);
        checks.due("commit", code.commit(), true);
        checks.dueState("committed", code::seal);
        code.clear();
        checks.due("cleared", code.seal(), -1);
    }

    private static void sizeCounts() {
        checks.sentence("5: How many instructions the source has");
        BlockCode code = new BlockCode();
        checks.due("none", code.size(), 0);
        for (int i = 0; i <= 18; i++) {
            code.add(0, 0, 0, 0);
            checks.due("after add", code.size(), i + 1);
            code.add(11, 0, 0, 0);
            checks.due("after an add that is refused", code.size(), i + 1);
        }
        code.add(10, 0, 0, 0);
        code.add(10, 0, 0, 0);
        checks.due("full", code.size(), 20);
        code.seal();
        checks.due("sealed", code.size(), 20);
        code.constants();
        code.compare();
        code.commit();
        checks.due("committed", code.size(), 20);
        code.clear();
        checks.due("cleared", code.size(), 0);
    }

    private static BlockCode twoAlike() {
        BlockCode code = Programs.sealed(Programs.plus(4, 3, 2), Programs.branch(4, 2), Programs.end(31));
        code.poke(0, 5, 1, 2, 3);
        return code;
    }

    private static void sourceOfFields() {
        checks.sentence("6: 0 op, 1 d, 2 a, 3 b, by field; 0 for another field");
        BlockCode code = twoAlike();
        checks.dueSource("fields 0 to 3", code, 0, 3, 4, 3, 2);
        checks.dueSource("fields 0 to 3", code, 1, 9, 0, 4, 2);
        checks.dueSource("fields 0 to 3", code, 2, 10, 0, 31, 0);
        for (int field : new int[] {MIN, -1, 4, 5, 10, MAX}) {
            for (int i = 0; i <= 2; i++) {
                checks.due("source(" + i + ", " + field + ")", code.source(i, field), 0);
            }
        }
    }

    private static void sourceOfInstructions() {
        checks.sentence("6: -9 if there is no such instruction");
        for (int length : new int[] {1, 19, 20}) {
            BlockCode code = Programs.added(Programs.filled(length, Programs.end(31)));
            checks.due("the first", code.source(0, 0), length == 1 ? 10 : 0);
            checks.due("the last", code.source(length - 1, 0), 10);
            for (int i : new int[] {MIN, -1, length, 20, 21, MAX}) {
                for (int field : new int[] {0, 1, 2, 3}) {
                    checks.due("source(" + i + ", " + field + ")", code.source(i, field), -9);
                }
            }
        }
        checks.due("of an empty source", new BlockCode().source(0, 0), -9);
        BlockCode equal = Programs.added(Programs.set(0, -9));
        checks.due("an int that is -9 is there", equal.source(0, 2), -9);
        checks.due("and its op is 1", equal.source(0, 0), 1);
    }

    private static void resultOfFields() {
        checks.sentence("7: Of instruction i of the result, as source");
        BlockCode code = twoAlike();
        checks.dueResult("fields 0 to 3", code, 0, 5, 1, 2, 3);
        checks.dueResult("fields 0 to 3", code, 1, 9, 0, 4, 2);
        checks.dueResult("fields 0 to 3", code, 2, 10, 0, 31, 0);
        for (int field : new int[] {MIN, -1, 4, 5, 10, MAX}) {
            for (int i = 0; i <= 2; i++) {
                checks.due("result(" + i + ", " + field + ")", code.result(i, field), 0);
            }
        }
    }

    private static void resultOfInstructions() {
        checks.sentence("7: as source (-9 if there is no such instruction)");
        for (int length : new int[] {1, 19, 20}) {
            BlockCode code = Programs.sealed(Programs.filled(length, Programs.end(31)));
            checks.due("the first", code.result(0, 0), length == 1 ? 10 : 0);
            checks.due("the last", code.result(length - 1, 0), 10);
            for (int i : new int[] {MIN, -1, length, 20, 21, MAX}) {
                for (int field : new int[] {0, 1, 2, 3}) {
                    checks.due("result(" + i + ", " + field + ")", code.result(i, field), -9);
                }
            }
        }
    }

    private static void resultWithoutOne() {
        checks.sentence("7: -9 also if there is no result");
        BlockCode code = new BlockCode();
        checks.due("new", code.result(0, 0), -9);
        code.add(10, 0, 0, 0);
        for (int field = -1; field <= 4; field++) {
            checks.due("not sealed", code.result(0, field), -9);
        }
        code.seal();
        checks.due("sealed", code.result(0, 0), 10);
        code.clear();
        checks.due("cleared", code.result(0, 0), -9);
        code.add(10, 0, 0, 0);
        checks.due("begun again", code.result(0, 0), -9);
    }
}
