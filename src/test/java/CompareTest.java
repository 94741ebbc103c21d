/** Promises 13 to 15: poke, compare, commit. */
public final class CompareTest {
    private static final int MIN = Integer.MIN_VALUE;
    private static final int MAX = Integer.MAX_VALUE;
    private static final Checks checks = new Checks();

    public static void main(String[] args) {
        pokeChangesOneInstruction();
        pokeRefuses();
        compareThrows();
        compareSymbols();
        compareBeginsWithFacts();
        compareLeavesOutWhatIsNotReached();
        compareTellsTheFirstBlock();
        compareRisks();
        compareGo();
        compareEither();
        compareEnd();
        compareEarlyEnds();
        compareNeedsOfTheResult();
        compareBehindTheLast();
        compareFullBlocks();
        commitAsksForAComparison();
        commitAsksForAGoodEnd();
        commitChangesTheSource();
        refusedCallsChangeNothing();
        checks.end("CompareTest");
    }

    /** What compare answers once these rows stand in the result from instruction i on. */
    private static int compared(BlockCode code, int i, int[]... rows) {
        for (int k = 0; k < rows.length; k++) {
            int[] row = rows[k];
            checks.due("13: poke", code.poke(i + k, row[0], row[1], row[2], row[3]), true);
        }
        return code.compare();
    }

    private static void pokeChangesOneInstruction() {
        BlockCode code = Programs.sealed(Programs.set(0, 1), Programs.set(1, 2), Programs.end(3));
        int[][] given = {
            {0, 4, 4, 4}, {1, 4, MIN, 7}, {2, 3, 4, 7}, {3, 1, 2, 3}, {7, 4, 4, 4},
            {8, 9, 2, 9}, {9, 9, 4, 2}, {10, 9, 31, 9},
        };
        int[][] taken = {
            {0, 0, 0, 0}, {1, 4, MIN, 0}, {2, 3, 4, 0}, {3, 1, 2, 3}, {7, 4, 4, 4},
            {8, 0, 2, 0}, {9, 0, 4, 2}, {10, 0, 31, 0},
        };
        for (int k = 0; k < given.length; k++) {
            checks.due("13: poke", code.poke(1, given[k][0], given[k][1], given[k][2], given[k][3]), true);
            for (int field = 0; field < 4; field++) {
                checks.due("13: number " + field, code.result(1, field), taken[k][field]);
            }
        }
        checks.due("13: the one before stays", code.result(0, 2), 1);
        checks.due("13: the one behind stays", code.result(2, 2), 3);
        checks.due("13: the source stays", code.source(1, 0), 1);
        checks.due("13: the source stays", code.source(1, 2), 2);
    }

    private static void pokeRefuses() {
        BlockCode code = Programs.added(Programs.set(0, 1), Programs.end(3));
        checks.due("13: no result", code.poke(0, 0, 0, 0, 0), false);
        code.seal();
        for (int i : new int[] {-1, 2, 19, 20, MIN, MAX}) {
            checks.due("13: no instruction " + i, code.poke(i, 0, 0, 0, 0), false);
        }
        int[][] wrong = {
            {-1, 0, 0, 0}, {11, 0, 0, 0}, {1, 5, 0, 0}, {1, -1, 0, 0}, {2, 0, 5, 0}, {2, 5, 0, 0},
            {3, 0, 0, 5}, {4, 0, -1, 0}, {5, -1, 0, 0}, {6, 0, 0, -1}, {7, 0, 5, 0},
            {8, 0, -1, 0}, {8, 0, 2, 0}, {8, 0, 19, 0}, {8, 0, 20, 0},
            {9, 0, 5, 0}, {9, 0, -1, 0}, {9, 0, 0, -1}, {9, 0, 0, 2}, {9, 0, 0, 20},
            {10, 0, -1, 0}, {10, 0, 32, 0},
        };
        for (int[] row : wrong) {
            checks.due("13: op " + row[0], code.poke(0, row[0], row[1], row[2], row[3]), false);
        }
        checks.due("13: nothing changed", code.result(0, 0), 1);
        checks.due("13: nothing changed", code.result(0, 2), 1);
        checks.due("13: an 8 to the last", code.poke(0, 8, 0, 1, 0), true);
        checks.due("13: a 9 to the last", code.poke(0, 9, 0, 0, 1), true);
    }

    private static void compareThrows() {
        BlockCode code = Programs.added(Programs.end(3));
        checks.dueState("14: not sealed", code::compare);
        code.seal();
        checks.due("14: sealed", code.compare(), 0);
        code.clear();
        checks.dueState("14: cleared", code::compare);
    }

    private static BlockCode sumOfThree() {
        return Programs.sealed(Programs.plus(3, 0, 1), Programs.plus(3, 3, 2), Programs.end(8));
    }

    private static void compareSymbols() {
        checks.due("14: the same", compared(sumOfThree(), 0), 0);
        checks.due("14: operands turned round", compared(sumOfThree(), 0, Programs.plus(3, 1, 0)), 1);
        checks.due("14: another register between",
                compared(sumOfThree(), 0, Programs.plus(4, 0, 1), Programs.plus(3, 4, 2)), 0);
        checks.due("14: another order of sums",
                compared(sumOfThree(), 0, Programs.plus(4, 1, 2), Programs.plus(3, 0, 4)), 1);
        checks.due("14: another op", compared(sumOfThree(), 0, Programs.minus(3, 0, 1)), 1);
        BlockCode copies = Programs.sealed(Programs.copy(1, 0), Programs.copy(2, 1), Programs.end(4));
        checks.due("14: a copy of a copy", compared(copies, 0, Programs.nothing(), Programs.copy(2, 0)), 0);
        BlockCode swapped = Programs.sealed(Programs.copy(2, 0), Programs.end(4));
        checks.due("14: another register", compared(swapped, 0, Programs.copy(2, 1)), 1);
        BlockCode ints = Programs.sealed(Programs.set(0, 5), Programs.set(1, 6), Programs.times(2, 0, 1),
                Programs.end(4));
        checks.due("14: two ints make an int", compared(ints, 0,
                Programs.nothing(), Programs.nothing(), Programs.set(2, 30)), 0);
        checks.due("14: another int", compared(ints, 2, Programs.set(2, 31)), 1);
        BlockCode kinds = Programs.sealed(Programs.set(2, 1), Programs.end(4));
        checks.due("14: register 1 is not the int 1", compared(kinds, 0, Programs.copy(2, 1)), 1);
        BlockCode half = Programs.sealed(Programs.set(1, 0), Programs.plus(2, 0, 1), Programs.end(4));
        checks.due("14: plus 0 is no copy", compared(half, 1, Programs.copy(2, 0)), 1);
        BlockCode left = Programs.sealed(Programs.set(1, 3), Programs.plus(2, 0, 1), Programs.end(4));
        checks.due("14: any plus an int is no int", compared(left, 1, Programs.set(2, 3)), 1);
        BlockCode right = Programs.sealed(Programs.set(1, 3), Programs.plus(2, 1, 0), Programs.end(4));
        checks.due("14: an int plus any is no int", compared(right, 1, Programs.set(2, 3)), 1);
        BlockCode least = Programs.sealed(Programs.set(0, MIN), Programs.set(1, -1),
                Programs.divided(2, 0, 1), Programs.end(4));
        checks.due("14: the least int by -1", compared(least, 2, Programs.set(2, MIN)), 0);
    }

    private static void compareBeginsWithFacts() {
        BlockCode code = Programs.sealed(Programs.set(0, 5), Programs.go(2),
                Programs.copy(1, 0), Programs.end(2));
        checks.due("14: an int that the facts say", compared(code, 2, Programs.set(1, 5)), 0);
        checks.due("14: another int", compared(code, 2, Programs.set(1, 6)), 3);
        checks.due("14: facts are the source's, not the result's",
                compared(code, 0, Programs.set(0, 6)), 3);
        BlockCode any = Programs.sealed(Programs.branch(2, 2), Programs.set(0, 5),
                Programs.copy(1, 0), Programs.end(2));
        checks.due("14: no int where it is any", compared(any, 2, Programs.set(1, 5)), 3);
        checks.due("14: a symbol where it is any", compared(any, 2, Programs.copy(1, 0)), 0);
    }

    private static void compareLeavesOutWhatIsNotReached() {
        BlockCode code = Programs.sealed(Programs.go(3), Programs.set(0, 1), Programs.end(1),
                Programs.end(2));
        checks.due("14: not reached", compared(code, 1, Programs.divided(0, 1, 2), Programs.go(0)), 0);
        BlockCode settled = Programs.sealed(Programs.set(0, 0), Programs.branch(0, 3),
                Programs.end(1), Programs.end(2));
        checks.due("14: not reached by the facts", compared(settled, 3, Programs.nothing()), 0);
        BlockCode broken = Programs.sealed(Programs.set(0, 0), Programs.divided(1, 1, 0),
                Programs.set(2, 5), Programs.end(4));
        checks.due("14: the rest of a block whose leader is reached",
                compared(broken, 2, Programs.set(2, 6)), 1);
        BlockCode behind = Programs.sealed(Programs.set(0, 0), Programs.divided(1, 1, 0),
                Programs.branch(3, 4), Programs.end(1), Programs.end(2));
        checks.due("14: a block behind a 6 by 0", compared(behind, 3, Programs.end(2)), 0);
    }

    private static void compareTellsTheFirstBlock() {
        BlockCode code = Programs.sealed(Programs.branch(0, 3), Programs.set(1, 1), Programs.end(2),
                Programs.nothing(), Programs.branch(2, 7), Programs.set(1, 3), Programs.end(2),
                Programs.set(1, 4), Programs.end(2));
        checks.due("14: the last", compared(code, 7, Programs.set(1, 5)), 8);
        checks.due("14: the one before it", compared(code, 5, Programs.set(1, 5)), 6);
        checks.due("14: the one before it", compared(code, 3, Programs.set(2, 1)), 4);
        checks.due("14: the one before it", compared(code, 1, Programs.set(1, 5)), 2);
        checks.due("14: the first", compared(code, 0, Programs.branch(3, 3)), 1);
    }

    private static BlockCode twoRisks() {
        return Programs.sealed(Programs.divided(2, 0, 1), Programs.divided(3, 1, 0), Programs.end(0));
    }

    private static void compareRisks() {
        checks.due("14: the same risks", compared(twoRisks(), 0,
                Programs.divided(4, 0, 1), Programs.divided(4, 1, 0)), 0);
        checks.due("14: another order", compared(twoRisks(), 0,
                Programs.divided(4, 1, 0), Programs.divided(4, 0, 1)), 1);
        checks.due("14: one is gone", compared(twoRisks(), 1, Programs.nothing()), 1);
        checks.due("14: another divisor", compared(twoRisks(), 1, Programs.divided(3, 1, 4)), 1);
        checks.due("14: another dividend", compared(twoRisks(), 1, Programs.divided(3, 4, 0)), 1);
        BlockCode divisor = Programs.sealed(Programs.divided(2, 0, 1), Programs.divided(3, 4, 1),
                Programs.end(0));
        checks.due("14: the same divisor alone is another risk", compared(divisor, 1, Programs.nothing()), 1);
        BlockCode dividend = Programs.sealed(Programs.divided(2, 0, 1), Programs.divided(3, 0, 4),
                Programs.end(0));
        checks.due("14: the same dividend alone is another risk", compared(dividend, 1, Programs.nothing()), 1);
        BlockCode more = Programs.sealed(Programs.nothing(), Programs.nothing(), Programs.end(0));
        checks.due("14: one more", compared(more, 0, Programs.divided(0, 1, 2)), 1);
        BlockCode again = Programs.sealed(Programs.divided(2, 0, 1), Programs.divided(3, 0, 1),
                Programs.end(12));
        checks.due("14: a risk again does not count", compared(again, 1, Programs.copy(3, 2)), 0);
        BlockCode between = Programs.sealed(Programs.divided(2, 0, 1), Programs.divided(3, 1, 0),
                Programs.divided(4, 0, 1), Programs.end(0));
        checks.due("14: nor with another between", compared(between, 2, Programs.nothing()), 0);
        BlockCode safe = Programs.sealed(Programs.set(1, 3), Programs.divided(2, 0, 1), Programs.end(0));
        checks.due("14: an int other than 0 is no risk",
                compared(safe, 0, Programs.nothing(), Programs.nothing()), 0);
        BlockCode zero = Programs.sealed(Programs.set(1, 0), Programs.divided(2, 0, 1), Programs.end(0));
        checks.due("14: the int 0 is a risk", compared(zero, 1, Programs.nothing()), 1);
        checks.due("14: the same risk", compared(zero, 1, Programs.divided(4, 0, 1)), 0);
        checks.due("14: another divisor than 0", compared(zero, 1, Programs.divided(2, 0, 3)), 1);
        BlockCode held = Programs.sealed(Programs.set(0, 8), Programs.set(1, 0),
                Programs.divided(2, 0, 1), Programs.end(4));
        checks.due("14: 8 by 0 holds no int", compared(held, 3, Programs.end(4)), 0);
        checks.due("14: 8 by 0 is a risk of its own", compared(held, 0, Programs.set(0, 9)), 1);
        BlockCode apart = Programs.sealed(Programs.divided(2, 0, 1), Programs.branch(3, 3),
                Programs.divided(2, 0, 1), Programs.divided(2, 0, 1), Programs.end(0));
        checks.due("14: a risk in the block before counts again",
                compared(apart, 3, Programs.nothing()), 4);
    }

    private static void compareGo() {
        BlockCode code = Programs.sealed(Programs.go(2), Programs.end(1), Programs.end(1));
        checks.due("14: to another instruction", compared(code, 0, Programs.go(1)), 1);
        checks.due("14: on instead", compared(code, 0, Programs.nothing()), 1);
        BlockCode next = Programs.sealed(Programs.go(1), Programs.end(1));
        checks.due("14: an 8 to the next is going on", compared(next, 0, Programs.nothing()), 0);
        checks.due("14: a 9 to the next is going on", compared(next, 0, Programs.branch(3, 1)), 0);
        BlockCode on = Programs.sealed(Programs.set(0, 1), Programs.plus(1, 1, 0), Programs.branch(1, 1),
                Programs.end(1));
        checks.due("14: GO behind the block's end", compared(on, 0, Programs.set(0, 1)), 0);
        checks.due("14: a 9 of an int other than 0 is GO to b", compared(
                Programs.sealed(Programs.set(0, 4), Programs.go(3), Programs.end(0), Programs.end(0)),
                1, Programs.branch(0, 3)), 0);
        checks.due("14: a 9 of 0 is GO to the next", compared(
                Programs.sealed(Programs.set(0, 0), Programs.go(2), Programs.end(0), Programs.end(0)),
                1, Programs.branch(0, 3)), 0);
        checks.due("14: a 9 of 0 is not GO to b", compared(
                Programs.sealed(Programs.set(0, 0), Programs.go(3), Programs.end(0), Programs.end(0)),
                1, Programs.branch(0, 3)), 1);
        checks.due("14: a 9 of any is not GO", compared(
                Programs.sealed(Programs.set(0, 4), Programs.go(3), Programs.end(0), Programs.end(0)),
                1, Programs.branch(1, 3)), 1);
        BlockCode held = Programs.sealed(Programs.set(0, 1), Programs.set(1, 2), Programs.go(3),
                Programs.end(1));
        checks.due("14: a register that is not needed", compared(held, 1, Programs.set(1, 3)), 0);
        checks.due("14: a register that is needed", compared(held, 0, Programs.set(0, 3)), 1);
    }

    private static BlockCode fork() {
        return Programs.sealed(Programs.nothing(), Programs.branch(0, 4), Programs.set(3, 1),
                Programs.end(10), Programs.end(4));
    }

    private static void compareEither() {
        checks.due("14: the same fork", compared(fork(), 0), 0);
        checks.due("14: another register", compared(fork(), 1, Programs.branch(4, 4)), 1);
        checks.due("14: the same symbol elsewhere",
                compared(fork(), 0, Programs.copy(4, 0), Programs.branch(4, 4)), 0);
        checks.due("14: another b", compared(fork(), 1, Programs.branch(0, 3)), 1);
        checks.due("14: another place",
                compared(fork(), 0, Programs.branch(0, 4), Programs.nothing()), 1);
        checks.due("14: another kind", compared(fork(), 1, Programs.go(4)), 1);
        checks.due("14: another kind", compared(fork(), 1, Programs.end(4)), 1);
        checks.due("14: needed on the one way", compared(fork(), 0, Programs.set(1, 5)), 1);
        checks.due("14: needed on the other way", compared(fork(), 0, Programs.set(2, 5)), 1);
        checks.due("14: needed on no way", compared(fork(), 0, Programs.set(3, 5)), 0);
        BlockCode mixed = Programs.sealed(Programs.branch(0, 3), Programs.nothing(), Programs.go(4),
                Programs.nothing(), Programs.end(4));
        checks.due("14: a fork and then none", compared(mixed, 1, Programs.go(4)), 0);
        BlockCode next = Programs.sealed(Programs.branch(0, 1), Programs.end(0));
        checks.due("14: a fork to the next is none", compared(next, 0, Programs.branch(1, 1)), 0);
        BlockCode first = Programs.sealed(Programs.branch(0, 2), Programs.end(0), Programs.end(0));
        checks.due("14: a fork at instruction 0", compared(first, 0, Programs.go(2)), 1);
        checks.due("14: a fork at instruction 0", compared(first, 0, Programs.branch(0, 2)), 0);
    }

    private static void compareEnd() {
        BlockCode code = Programs.sealed(Programs.set(0, 1), Programs.set(1, 2), Programs.end(1));
        checks.due("14: another set", compared(code, 2, Programs.end(3)), 1);
        checks.due("14: a smaller set", compared(code, 2, Programs.end(0)), 1);
        checks.due("14: the same set", compared(code, 2, Programs.end(1)), 0);
        checks.due("14: a register that is not in the set", compared(code, 1, Programs.set(1, 9)), 0);
        checks.due("14: a register in the set", compared(code, 0, Programs.set(0, 9)), 1);
        BlockCode high = Programs.sealed(Programs.set(4, 1), Programs.end(16));
        checks.due("14: register 4 in the set", compared(high, 0, Programs.set(4, 2)), 1);
        checks.due("14: END is not GO", compared(
                Programs.sealed(Programs.end(1), Programs.end(1)), 0, Programs.go(1)), 1);
        checks.due("14: END 0 is not GO 0", compared(
                Programs.sealed(Programs.go(0)), 0, Programs.end(0)), 1);
    }

    private static void compareEarlyEnds() {
        BlockCode code = Programs.sealed(Programs.set(0, 1), Programs.nothing(), Programs.divided(1, 1, 1),
                Programs.end(1));
        checks.due("14: an end before a risk", compared(code, 1, Programs.end(1)), 1);
        BlockCode none = Programs.sealed(Programs.set(0, 1), Programs.nothing(), Programs.set(1, 3),
                Programs.end(1));
        checks.due("14: an end before the block's end", compared(none, 1, Programs.end(1)), 0);
        BlockCode jump = Programs.sealed(Programs.nothing(), Programs.set(1, 3), Programs.go(4),
                Programs.end(2), Programs.end(1));
        checks.due("14: an 8 before the block's end", compared(jump, 0, Programs.go(4)), 0);
        BlockCode settled = Programs.sealed(Programs.nothing(), Programs.nothing(), Programs.go(3),
                Programs.end(1));
        checks.due("14: a 9 of 0 before the block's end goes to the one behind it",
                compared(settled, 0, Programs.set(4, 0), Programs.branch(4, 3)), 1);
    }

    private static void compareNeedsOfTheResult() {
        BlockCode code = Programs.sealed(Programs.set(0, 1), Programs.go(2), Programs.copy(1, 0),
                Programs.end(2));
        checks.due("14: needed in the source alone",
                compared(code, 0, Programs.nothing(), Programs.go(2), Programs.set(1, 1)), 0);
        BlockCode more = Programs.sealed(Programs.set(0, 1), Programs.go(2), Programs.set(1, 1),
                Programs.end(2));
        checks.due("14: needed in the result alone",
                compared(more, 0, Programs.nothing(), Programs.go(2), Programs.copy(1, 0)), 1);
        BlockCode loop = Programs.sealed(Programs.set(0, 1), Programs.plus(1, 1, 0), Programs.branch(1, 1),
                Programs.end(2));
        checks.due("14: needed round a loop", compared(loop, 0, Programs.set(0, 2)), 1);
        checks.due("14: not needed any more", compared(loop, 0,
                Programs.set(0, 2), Programs.set(0, 1), Programs.branch(1, 1)), 2);
    }

    private static void compareBehindTheLast() {
        BlockCode code = Programs.sealed(Programs.set(0, 1), Programs.end(1));
        checks.due("14: on behind the last", compared(code, 1, Programs.nothing()), 1);
        checks.due("14: a fork behind the last", compared(code, 1, Programs.branch(1, 0)), 1);
        checks.due("14: a 9 of 0 behind the last",
                compared(code, 0, Programs.set(0, 0), Programs.branch(0, 0)), 1);
        BlockCode loop = Programs.sealed(Programs.set(0, 1), Programs.go(0));
        checks.due("14: a last 9 that always goes back", compared(loop, 1, Programs.branch(0, 0)), 0);
        checks.due("15: but it cannot be committed", loop.commit(), false);
    }

    private static void compareFullBlocks() {
        int[][] rows = new int[20][];
        for (int i = 0; i < 19; i++) {
            rows[i] = Programs.divided(i % 5, i % 5, (i + 1) % 5);
        }
        rows[19] = Programs.end(0);
        BlockCode code = Programs.sealed(rows);
        checks.due("14: a block of twenty", code.compare(), 0);
        for (int i = 0; i < 19; i++) {
            code.poke(i, 6, (i + 2) % 5, (i + 2) % 5, i % 5);
        }
        checks.due("14: a block of twenty with other symbols", code.compare(), 1);
        for (int i = 0; i < 19; i++) {
            code.poke(i, 1, 0, i, 0);
        }
        checks.due("14: a block of twenty without risks", code.compare(), 1);
        checks.due("14: the source again", compared(code, 0, rows), 0);
    }

    private static void commitAsksForAComparison() {
        BlockCode code = Programs.sealed(Programs.set(0, 1), Programs.copy(1, 0), Programs.end(3));
        checks.due("15: not compared since seal", code.commit(), false);
        checks.due("15: compare", code.compare(), 0);
        checks.due("15: compared", code.commit(), true);
        checks.due("15: not again", code.commit(), false);
        checks.due("15: compare", code.compare(), 0);
        code.constants();
        checks.due("15: not compared since constants", code.commit(), false);
        checks.due("15: compare", code.compare(), 0);
        code.repeats();
        checks.due("15: not compared since repeats, though nothing changed", code.commit(), false);
        checks.due("15: compare", code.compare(), 0);
        code.unneeded();
        checks.due("15: not compared since unneeded, though nothing changed", code.commit(), false);
        checks.due("15: compare", code.compare(), 0);
        code.poke(0, 1, 0, 1, 0);
        checks.due("15: not compared since poke, though nothing changed", code.commit(), false);
        code.poke(0, 1, 0, 2, 0);
        checks.due("15: compare", code.compare(), 1);
        checks.due("15: not alike", code.commit(), false);
        code.poke(0, 1, 0, 1, 0);
        checks.due("15: compare", code.compare(), 0);
        checks.due("15: compare twice", code.compare(), 0);
        code.input(0, 5);
        code.runSource(10);
        code.runResult(10);
        checks.due("15: runs do not matter", code.commit(), true);
    }

    private static void commitAsksForAGoodEnd() {
        BlockCode code = Programs.sealed(Programs.end(1), Programs.end(2));
        checks.due("14: the last is not reached", compared(code, 1, Programs.nothing()), 0);
        checks.due("15: the last is a 0", code.commit(), false);
        checks.due("15: the source stays", code.source(1, 0), 10);
        checks.due("14: the last is not reached", compared(code, 1, Programs.branch(0, 0)), 0);
        checks.due("15: the last is a 9", code.commit(), false);
        checks.due("14: the last is not reached", compared(code, 1, Programs.go(0)), 0);
        checks.due("15: the last is an 8", code.commit(), true);
        checks.due("15: the source changed", code.source(1, 0), 8);
        checks.due("14: the last is not reached", compared(code, 1, Programs.end(0)), 0);
        checks.due("15: the last is a 10", code.commit(), true);
    }

    private static void commitChangesTheSource() {
        BlockCode code = Programs.sealed(Programs.set(0, 1), Programs.branch(0, 3), Programs.end(0),
                Programs.set(1, 2), Programs.end(3));
        checks.due("10: constants", code.constants(), 1);
        checks.due("14: compare", code.compare(), 0);
        checks.due("15: commit", code.commit(), true);
        checks.due("15: source", code.source(1, 0), 8);
        checks.due("15: source", code.source(1, 2), 3);
        checks.due("15: the result stays", code.result(1, 0), 8);
        checks.due("15: size", code.size(), 5);
        checks.dueState("15: it stays sealed", code::seal);
        checks.dueState("15: it stays sealed", () -> code.add(0, 0, 0, 0));
        checks.due("15: run", code.runSource(10), 0);
        checks.due("15: run", code.told(1), 2);
        BlockCode blocks = Programs.sealed(Programs.go(1), Programs.set(0, 1), Programs.end(1));
        checks.due("14: compare", compared(blocks, 0, Programs.nothing()), 0);
        checks.due("15: commit", blocks.commit(), true);
        checks.due("14: blocks are the new source's", compared(blocks, 1, Programs.set(0, 2)), 1);
        checks.due("14: blocks are the new source's", compared(blocks, 0,
                Programs.set(0, 1), Programs.end(1)), 0);
    }

    private static void refusedCallsChangeNothing() {
        BlockCode code = Programs.sealed(Programs.set(0, 1), Programs.end(1));
        code.compare();
        code.poke(0, 11, 0, 0, 0);
        code.poke(2, 0, 0, 0, 0);
        code.poke(0, 8, 0, 2, 0);
        checks.dueState("4: sealed", code::seal);
        checks.dueState("2: sealed", () -> code.add(0, 0, 0, 0));
        checks.due("15: refused calls do not count", code.commit(), true);
        checks.due("5: size", code.size(), 2);
    }
}
