import java.util.Arrays;

/** The edges that COMPARING and promises 13 to 15 name, each sentence in a test of its own. */
public final class EdgeCompareTest {
    private static final int MIN = Integer.MIN_VALUE;
    private static final int MAX = Integer.MAX_VALUE;
    private static final Checks checks = new Checks();

    public static void main(String[] args) {
        leavesOutWhatIsNotReached();
        beginsWithFacts();
        foldsTwoInts();
        foldsNoDivisionByZero();
        risksByDivisor();
        risksInOrder();
        risksOnlyOnce();
        endsAtTheFirst();
        endsAtTheBlocksEnd();
        goesByEight();
        goesByNineOfAnInt();
        goesByNineToTheNext();
        eitherOrNot();
        endsWithASet();
        kindsOfEnd();
        symbolsOfTheSet();
        symbolsNeededInTheResult();
        symbolsOfThree();
        symbolsOfFullPrograms();
        eachComparisonAnew();
        behindTheLast();
        pokeChanges();
        pokeWithoutAResult();
        pokeWithoutAnInstruction();
        pokeWithoutTheForm();
        pokeOfNames();
        compareAnswersTheLeader();
        compareThrows();
        commitBehindACompare();
        commitBehindAChange();
        commitOnlyOnce();
        commitWithoutAResult();
        commitByTheLastOp();
        commitMakesTheSource();
        checks.end("EdgeCompareTest");
    }

    /** What compare answers once these rows stand in the result from instruction i on. */
    private static int compared(BlockCode code, int i, int[]... rows) {
        for (int k = 0; k < rows.length; k++) {
            int[] row = rows[k];
            checks.due("poke", code.poke(i + k, row[0], row[1], row[2], row[3]), true);
        }
        return code.compare();
    }

    private static void leavesOutWhatIsNotReached() {
        checks.sentence("COMPARING goes through the blocks of the source in order, but leaves out those whose leader"
                + " is not reached");
        for (int test = 0; test <= 1; test++) {
            int[][] rows = {Programs.set(0, test), Programs.branch(0, 3), Programs.end(1), Programs.end(1)};
            checks.due("the next of a 9 of " + test, compared(Programs.sealed(rows), 2, Programs.end(2)),
                    test == 0 ? 3 : 0);
            checks.due("the b of a 9 of " + test, compared(Programs.sealed(rows), 3, Programs.end(2)),
                    test == 0 ? 0 : 4);
        }
        BlockCode last = Programs.sealed(Programs.filled(20, Programs.end(1), Programs.end(1)));
        checks.due("all but the first", compared(last, 1, Programs.go(0)), 0);
        checks.due("all but the first", compared(last, 19, Programs.nothing()), 0);
        BlockCode inside = Programs.sealed(Programs.set(0, 0), Programs.divided(1, 1, 0), Programs.set(2, 5),
                Programs.end(4));
        checks.due("the rest of a block whose leader is reached", compared(inside, 2, Programs.set(2, 6)), 1);
    }

    private static void beginsWithFacts() {
        checks.sentence("at first register r holds its int if the facts of the source say one before the leader,"
                + " else \"r\"");
        for (int value : new int[] {MIN, -1, 0, 1, MAX}) {
            int[][] rows = {Programs.set(4, value), Programs.go(2), Programs.copy(0, 4), Programs.end(1)};
            checks.due("the int " + value, compared(Programs.sealed(rows), 2, Programs.set(0, value)), 0);
            checks.due("not " + value, compared(Programs.sealed(rows), 2, Programs.set(0, value + 1)), 3);
        }
        for (int r = 0; r <= 4; r++) {
            int d = (r + 1) % 5;
            int other = (r + 2) % 5;
            int[][] rows = {Programs.copy(d, r), Programs.end(1 << d)};
            checks.due("register " + r, compared(Programs.sealed(rows), 0, Programs.copy(d, r)), 0);
            checks.due("not register " + r, compared(Programs.sealed(rows), 0, Programs.copy(d, other)), 1);
            checks.due("not the int " + r, compared(Programs.sealed(rows), 0, Programs.set(d, r)), 1);
        }
    }

    private static void foldsTwoInts() {
        checks.sentence("but 3 to 7 of two ints hold the int");
        int[] values = {0, 0, 0, MIN, MAX - 1, MAX, MAX, 0};
        for (int op = 3; op <= 7; op++) {
            int[][] rows = {Programs.set(0, MAX), Programs.set(1, 1), new int[] {op, 2, 0, 1}, Programs.end(4)};
            checks.due("op " + op, compared(Programs.sealed(rows), 2, Programs.set(2, values[op])), 0);
            checks.due("op " + op, compared(Programs.sealed(rows), 2, Programs.set(2, values[op] - 1)), 1);
            int[][] left = {Programs.set(0, MAX), new int[] {op, 2, 0, 1}, Programs.end(4)};
            checks.due("op " + op + " of an int and \"1\"", compared(Programs.sealed(left), 1,
                    Programs.set(2, values[op])), 1);
            int[][] right = {Programs.set(1, 1), new int[] {op, 2, 0, 1}, Programs.end(4)};
            checks.due("op " + op + " of \"0\" and an int", compared(Programs.sealed(right), 1,
                    Programs.set(2, values[op])), 1);
        }
    }

    private static void foldsNoDivisionByZero() {
        checks.sentence("(a 6 only if the divisor is not 0)");
        int[][] rows = {Programs.set(0, 8), Programs.set(1, 0), Programs.divided(2, 0, 1), Programs.end(4)};
        checks.due("the same", compared(Programs.sealed(rows), 0), 0);
        checks.due("an int behind the same risk", compared(Programs.sealed(
                Programs.set(0, 8), Programs.set(1, 0), Programs.divided(2, 0, 1), Programs.nothing(),
                Programs.end(4)), 3, Programs.set(2, 0)), 1);
        checks.due("the same symbol by another way", compared(Programs.sealed(
                Programs.set(0, 8), Programs.set(1, 0), Programs.divided(2, 0, 1), Programs.nothing(),
                Programs.end(4)), 2, Programs.divided(3, 0, 1), Programs.copy(2, 3)), 0);
        BlockCode least = Programs.sealed(Programs.set(0, MIN), Programs.set(1, -1), Programs.divided(2, 0, 1),
                Programs.end(4));
        checks.due("the least int by -1", compared(least, 2, Programs.set(2, MIN)), 0);
    }

    private static void risksByDivisor() {
        checks.sentence("A 6 whose divisor is not an int other than 0 is a RISK");
        for (int divisor : new int[] {MIN, -1, 0, 1, MAX}) {
            int[][] rows = {Programs.set(1, divisor), Programs.divided(2, 0, 1), Programs.end(0)};
            checks.due("taken away by " + divisor, compared(Programs.sealed(rows), 1, Programs.nothing()),
                    divisor == 0 ? 1 : 0);
            int[][] none = {Programs.set(1, divisor), Programs.nothing(), Programs.end(0)};
            checks.due("put there by " + divisor, compared(Programs.sealed(none), 1, Programs.divided(2, 0, 1)),
                    divisor == 0 ? 1 : 0);
        }
        int[][] open = {Programs.set(0, 0), Programs.divided(2, 0, 1), Programs.end(0)};
        checks.due("taken away by \"1\"", compared(Programs.sealed(open), 1, Programs.nothing()), 1);
        for (int r = 0; r <= 4; r++) {
            int[][] own = {Programs.divided(4, r, r), Programs.end(0)};
            checks.due("register " + r + " by itself", compared(Programs.sealed(own), 0, Programs.nothing()), 1);
        }
    }

    private static void risksInOrder() {
        checks.sentence("its dividend and divisor, in order (.. the same risks in the same order)");
        int[][] rows = {Programs.divided(2, 0, 1), Programs.divided(3, 1, 0), Programs.end(0)};
        checks.due("the same", compared(Programs.sealed(rows), 0, Programs.divided(4, 0, 1)), 0);
        checks.due("another order", compared(Programs.sealed(rows), 0, rows[1], rows[0]), 1);
        checks.due("another dividend", compared(Programs.sealed(rows), 0, Programs.divided(2, 4, 1)), 1);
        checks.due("another divisor", compared(Programs.sealed(rows), 0, Programs.divided(2, 0, 4)), 1);
        checks.due("one less", compared(Programs.sealed(rows), 1, Programs.nothing()), 1);
        checks.due("the first less", compared(Programs.sealed(rows), 0, Programs.nothing()), 1);
        int[][] one = {Programs.divided(2, 0, 1), Programs.nothing(), Programs.end(0)};
        checks.due("one more", compared(Programs.sealed(one), 1, Programs.divided(3, 1, 0)), 1);
        int[][] full = new int[20][];
        for (int i = 0; i < 19; i++) {
            full[i] = Programs.divided(i % 5, i % 5, (i + 1) % 5);
        }
        full[19] = Programs.end(0);
        checks.due("nineteen", Programs.sealed(full).compare(), 0);
        checks.due("the nineteenth is another",
                compared(Programs.sealed(full), 18, Programs.divided(3, 3, 2)), 1);
    }

    private static void risksOnlyOnce() {
        checks.sentence("a pair that was a risk in this block already does not count again");
        int[][] rows = {Programs.divided(2, 0, 1), Programs.divided(3, 1, 0), Programs.divided(4, 0, 1),
            Programs.end(0)};
        checks.due("once less", compared(Programs.sealed(rows), 2, Programs.nothing()), 0);
        checks.due("twice the other", compared(Programs.sealed(rows), 2, Programs.divided(4, 1, 0)), 0);
        checks.due("the first of two less", compared(Programs.sealed(rows), 0, Programs.nothing()), 1);
        checks.due("the same divisor alone is another pair",
                compared(Programs.sealed(rows), 2, Programs.divided(4, 4, 1)), 1);
        int[][] changed = {Programs.divided(2, 0, 1), Programs.plus(0, 0, 1), Programs.divided(3, 0, 1),
            Programs.end(0)};
        checks.due("the same registers with other symbols are another pair",
                compared(Programs.sealed(changed), 2, Programs.nothing()), 1);
        int[][] blocks = {Programs.divided(2, 0, 1), Programs.branch(4, 2), Programs.divided(2, 0, 1),
            Programs.end(0)};
        checks.due("in the next block it counts again",
                compared(Programs.sealed(blocks), 2, Programs.nothing()), 3);
    }

    private static void endsAtTheFirst() {
        checks.sentence("It ends at the first 8, 9 or 10");
        int[][] rows = {Programs.set(0, 1), Programs.nothing(), Programs.set(0, 2), Programs.go(5),
            Programs.end(0), Programs.end(1)};
        checks.due("an 8 before the rest", compared(Programs.sealed(rows), 1, Programs.go(5)), 1);
        checks.due("an 8 before a rest that does not count", compared(Programs.sealed(rows), 0,
                Programs.set(0, 2), Programs.go(5), Programs.divided(4, 4, 4), Programs.end(3)), 0);
        int[][] ended = {Programs.set(0, 1), Programs.nothing(), Programs.set(1, 2), Programs.end(1)};
        checks.due("a 10 before the rest", compared(Programs.sealed(ended), 1, Programs.end(1)), 0);
        int[][] settled = {Programs.set(0, 1), Programs.nothing(), Programs.set(1, 2), Programs.go(5),
            Programs.end(0), Programs.end(1)};
        checks.due("a 9 before the rest", compared(Programs.sealed(settled), 1, Programs.branch(0, 5)), 0);
    }

    private static void endsAtTheBlocksEnd() {
        checks.sentence("or at the block's end: .. GO to the instruction behind the block's end");
        int[][] rows = {Programs.set(0, 1), Programs.set(1, 2), Programs.branch(4, 1), Programs.end(3)};
        checks.due("both", Programs.sealed(rows).compare(), 0);
        checks.due("an 8 to the one behind", compared(Programs.sealed(
                Programs.set(0, 1), Programs.nothing(), Programs.set(1, 2), Programs.branch(4, 2),
                Programs.end(3)), 1, Programs.go(2)), 0);
        checks.due("an 8 to another", compared(Programs.sealed(
                Programs.set(0, 1), Programs.nothing(), Programs.set(1, 2), Programs.branch(4, 2),
                Programs.end(3)), 1, Programs.go(3)), 1);
        checks.due("no 8 any more", compared(Programs.sealed(Programs.go(1), Programs.end(0)), 0,
                Programs.nothing()), 0);
        checks.due("no 8 any more, and another behind", compared(Programs.sealed(Programs.go(2), Programs.end(0),
                Programs.end(0)), 0, Programs.nothing()), 1);
    }

    private static void goesByEight() {
        checks.sentence("GO to a (8) .. GO to the same instruction of the program");
        for (int a = 0; a <= 19; a++) {
            BlockCode code = Programs.sealed(Programs.filled(20, Programs.go(10)));
            checks.due("an 8 to " + a, compared(code, 19, Programs.go(a)), a == 10 ? 0 : 11);
        }
    }

    private static void goesByNineOfAnInt() {
        checks.sentence("GO to b or the next one if a 9's symbol is an int");
        for (int test : new int[] {MIN, -1, 0, 1, MAX}) {
            int next = test == 0 ? 0 : 1;
            checks.due("a 9 of " + test + " and the next", compared(Programs.sealed(Programs.set(4, test),
                    Programs.go(2), Programs.end(0), Programs.end(0)), 1, Programs.branch(4, 3)), next);
            checks.due("a 9 of " + test + " and b", compared(Programs.sealed(Programs.set(4, test),
                    Programs.go(3), Programs.end(0), Programs.end(0)), 1, Programs.branch(4, 3)), 1 - next);
        }
        checks.due("a 9 of \"4\"", compared(Programs.sealed(Programs.set(3, 1),
                Programs.go(3), Programs.end(0), Programs.end(0)), 1, Programs.branch(4, 3)), 1);
    }

    private static void goesByNineToTheNext() {
        checks.sentence("or to b if b is the next one");
        int[][] rows = {Programs.nothing(), Programs.branch(0, 2), Programs.end(0), Programs.end(0)};
        checks.due("another symbol", compared(Programs.sealed(rows), 1, Programs.branch(4, 2)), 0);
        checks.due("an 8", compared(Programs.sealed(rows), 1, Programs.go(2)), 0);
        checks.due("nothing", compared(Programs.sealed(rows), 1, Programs.nothing()), 0);
        checks.due("another place", compared(Programs.sealed(rows), 0, Programs.go(2)), 0);
        checks.due("b is the one behind the next", compared(Programs.sealed(rows), 1, Programs.branch(0, 3)), 1);
        checks.due("b is itself", compared(Programs.sealed(rows), 1, Programs.branch(0, 1)), 1);
    }

    private static void eitherOrNot() {
        checks.sentence("else EITHER (symbol, b) .. the same symbol, the same b, and the same place");
        int[][] rows = {Programs.nothing(), Programs.branch(0, 4), Programs.end(0), Programs.end(0),
            Programs.end(0)};
        checks.due("the same", compared(Programs.sealed(rows), 1, Programs.branch(0, 4)), 0);
        checks.due("the same symbol in another register",
                compared(Programs.sealed(rows), 0, Programs.copy(3, 0), Programs.branch(3, 4)), 0);
        checks.due("another symbol", compared(Programs.sealed(rows), 1, Programs.branch(3, 4)), 1);
        checks.due("another b", compared(Programs.sealed(rows), 1, Programs.branch(0, 3)), 1);
        checks.due("another place", compared(Programs.sealed(rows), 0, Programs.branch(0, 4)), 1);
        BlockCode first = Programs.sealed(Programs.branch(0, 2), Programs.end(0), Programs.end(0));
        checks.due("at instruction 0", first.compare(), 0);
        BlockCode itself = Programs.sealed(Programs.filled(20, Programs.end(0), Programs.branch(0, 0)));
        checks.due("to itself", itself.compare(), 0);
        int[][] late = Programs.filled(20, Programs.end(0));
        late[18] = Programs.branch(0, 0);
        checks.due("before the last", Programs.sealed(late).compare(), 0);
        checks.due("before the last, another symbol",
                compared(Programs.sealed(late), 18, Programs.branch(1, 0)), 1);
    }

    private static void endsWithASet() {
        checks.sentence("END (10) .. END: the same set");
        for (int set = 0; set <= 31; set++) {
            for (int other : new int[] {0, 1, 16, 31}) {
                checks.due(set + " and " + other, compared(Programs.sealed(Programs.end(set)), 0,
                        Programs.end(other)), set == other ? 0 : 1);
            }
        }
    }

    private static void kindsOfEnd() {
        checks.sentence("the same kind of end");
        int[][] ends = {Programs.go(2), Programs.branch(0, 2), Programs.end(2), Programs.nothing()};
        for (int[] ofSource : ends) {
            for (int[] ofResult : ends) {
                BlockCode code = Programs.sealed(ofSource, Programs.branch(0, 1), Programs.end(0));
                checks.due(Forms.written(ofSource) + " and " + Forms.written(ofResult),
                        compared(code, 0, ofResult), ofSource == ofResult ? 0 : 1);
            }
        }
    }

    private static void symbolsOfTheSet() {
        checks.sentence("And the same symbol in each register of the set (END)");
        for (int set : new int[] {0, 1, 2, 4, 8, 16, 15, 30, 31}) {
            for (int r = 0; r <= 4; r++) {
                BlockCode code = Programs.sealed(Programs.nothing(), Programs.end(set));
                boolean counts = (set >> r) % 2 == 1;
                checks.due("register " + r + " of the set " + set, compared(code, 0, Programs.set(r, 1)),
                        counts ? 1 : 0);
            }
        }
    }

    private static void symbolsNeededInTheResult() {
        checks.sentence("or needed in the result before an instruction to which it goes on (GO, EITHER)");
        for (int r = 0; r <= 3; r++) {
            int[] reads = Programs.end(1 << r);
            int[] none = Programs.end(0);
            checks.due("GO", compared(Programs.sealed(Programs.nothing(), Programs.go(2), reads), 0,
                    Programs.set(r, 1)), 1);
            checks.due("GO, not needed", compared(Programs.sealed(Programs.nothing(), Programs.go(2), none), 0,
                    Programs.set(r, 1)), 0);
            checks.due("EITHER to b", compared(Programs.sealed(Programs.nothing(), Programs.branch(4, 3), none,
                    reads), 0, Programs.set(r, 1)), 1);
            checks.due("EITHER to the next", compared(Programs.sealed(Programs.nothing(), Programs.branch(4, 3),
                    reads, none), 0, Programs.set(r, 1)), 1);
            checks.due("EITHER, not needed", compared(Programs.sealed(Programs.nothing(), Programs.branch(4, 3),
                    none, none), 0, Programs.set(r, 1)), 0);
        }
        int[][] source = {Programs.set(0, 1), Programs.go(2), Programs.copy(1, 0), Programs.end(2)};
        checks.due("needed in the source alone", compared(Programs.sealed(source), 0, Programs.nothing(),
                Programs.go(2), Programs.set(1, 1)), 0);
        int[][] result = {Programs.set(0, 1), Programs.go(2), Programs.set(1, 1), Programs.end(2)};
        checks.due("needed in the result alone", compared(Programs.sealed(result), 0, Programs.nothing(),
                Programs.go(2), Programs.copy(1, 0)), 1);
        for (int r = 0; r <= 3; r++) {
            int[][] loop = {Programs.set(4, 1), Programs.set(r, 5), Programs.go(0)};
            checks.due("register " + r + " is not needed behind the last", compared(Programs.sealed(loop), 1,
                    Programs.nothing(), Programs.branch(4, 0)), 0);
        }
    }

    private static void symbolsOfThree() {
        checks.sentence("The symbols \"op, x, y\" are the same if all three are");
        int[][] rows = {Programs.plus(4, 0, 1), Programs.end(16)};
        for (int op = 3; op <= 7; op++) {
            for (int x = 0; x <= 2; x++) {
                for (int y = 0; y <= 2; y++) {
                    boolean same = op == 3 && x == 0 && y == 1;
                    checks.due(op + ", " + x + ", " + y, compared(Programs.sealed(rows), 0,
                            new int[] {op, 4, x, y}), same ? 0 : 1);
                }
            }
        }
    }

    private static void symbolsOfFullPrograms() {
        checks.sentence("Both programs are gone through in symbols from the leader on (the most symbols there are)");
        int[][] sums = new int[20][];
        int[][] differences = new int[20][];
        int[][] ints = new int[20][];
        for (int i = 0; i <= 19; i++) {
            sums[i] = i == 19 ? Programs.end(31) : Programs.plus(i % 5, i % 5, (i + 1) % 5);
            differences[i] = Programs.minus(i % 5, i % 5, (i + 1) % 5);
            ints[i] = Programs.set(i % 5, i);
        }
        BlockCode code = Programs.sealed(sums);
        checks.due("no two are the same", compared(code, 0, differences), 1);
        checks.due("no two are the same", compared(code, 0, ints), 1);
        checks.due("all are the same", compared(code, 0, sums), 0);
    }

    private static void eachComparisonAnew() {
        checks.sentence("COMPARING (what an earlier comparison found does not count)");
        BlockCode risks = Programs.sealed(Programs.divided(2, 0, 1), Programs.nothing(), Programs.end(0));
        checks.due("one more risk", compared(risks, 1, Programs.divided(3, 1, 0)), 1);
        checks.due("the same risks", compared(risks, 1, Programs.nothing()), 0);
        BlockCode places = Programs.sealed(Programs.go(1), Programs.nothing(), Programs.branch(0, 4),
                Programs.end(0), Programs.end(0));
        checks.due("another place", compared(places, 1, Programs.branch(0, 4)), 2);
        checks.due("the same place", compared(places, 1, Programs.nothing()), 0);
        checks.due("another symbol", compared(places, 2, Programs.branch(3, 4)), 2);
        checks.due("the same symbol", compared(places, 2, Programs.branch(0, 4)), 0);
        BlockCode needs = Programs.sealed(Programs.set(1, 1), Programs.go(2), Programs.nothing(), Programs.go(2));
        checks.due("a loop that reads", compared(needs, 2, Programs.copy(0, 1)), 0);
        checks.due("and misses what it reads", compared(needs, 0, Programs.nothing()), 1);
        checks.due("a loop that reads no more", compared(needs, 2, Programs.nothing()), 0);
    }

    private static void behindTheLast() {
        checks.sentence("A result that goes on behind its last instruction is not alike");
        for (int length : new int[] {1, 2, 19, 20}) {
            int[][] ended = Programs.filled(length, Programs.end(0));
            int[][] looped = Programs.filled(length, Programs.go(0));
            checks.due("a 0 for an end", compared(Programs.sealed(ended), length - 1, Programs.nothing()), 1);
            checks.due("a 0 for an 8", compared(Programs.sealed(looped), length - 1, Programs.nothing()), 1);
            checks.due("a 9 for an end", compared(Programs.sealed(ended), length - 1, Programs.branch(0, 0)), 1);
            checks.due("a 9 for an 8", compared(Programs.sealed(looped), length - 1, Programs.branch(0, 0)), 1);
        }
        checks.due("a last 9 of 0", compared(Programs.sealed(Programs.set(0, 0), Programs.go(0)), 1,
                Programs.branch(0, 0)), 1);
        checks.due("a last 9 of 1 does not go on", compared(Programs.sealed(Programs.set(0, 1), Programs.go(0)),
                1, Programs.branch(0, 0)), 0);
    }

    private static void pokeChanges() {
        checks.sentence("13: Instruction i of the result becomes this one (numbers that its op does not say are"
                + " taken as 0): true");
        BlockCode source = Programs.sealed(Programs.filled(20, Programs.end(9), Programs.set(2, 3)));
        for (int[] row : Forms.taken()) {
            for (int i : new int[] {0, 19}) {
                BlockCode code = Programs.sealed(Programs.filled(20, Programs.end(9), Programs.set(2, 3)));
                checks.due("poke of " + i, code.poke(i, row[0], row[1], row[2], row[3]), true);
                checks.dueResult("poke" + Forms.written(row), code, i, Forms.kept(row));
                checks.due("the other stays", code.result(19 - i, 0), source.source(19 - i, 0));
                checks.dueSource("the source stays", code, 0, 1, 2, 3, 0);
                checks.dueSource("the source stays", code, 19, 10, 0, 9, 0);
            }
        }
    }

    private static void pokeWithoutAResult() {
        checks.sentence("13: False ..: there is no result");
        BlockCode code = new BlockCode();
        checks.due("empty", code.poke(0, 0, 0, 0, 0), false);
        code.add(10, 0, 1, 0);
        checks.due("not sealed", code.poke(0, 0, 0, 0, 0), false);
        code.seal();
        checks.due("sealed", code.poke(0, 0, 0, 0, 0), true);
        code.clear();
        checks.due("cleared", code.poke(0, 0, 0, 0, 0), false);
        code.add(10, 0, 1, 0);
        checks.due("begun again", code.poke(0, 0, 0, 0, 0), false);
        checks.dueSource("the source stays", code, 0, 10, 0, 1, 0);
    }

    private static void pokeWithoutAnInstruction() {
        checks.sentence("13: or no instruction i");
        for (int length : new int[] {1, 2, 19, 20}) {
            BlockCode code = Programs.sealed(Programs.filled(length, Programs.end(0)));
            for (int i : new int[] {MIN, -1, length, 20, 21, MAX}) {
                checks.due("poke of " + i, code.poke(i, 0, 0, 0, 0), false);
                checks.due("poke of " + i + " without the form", code.poke(i, 11, 0, 0, 0), false);
            }
            checks.due("the first", code.poke(0, 1, 1, 1, 1), true);
            checks.due("the last", code.poke(length - 1, 1, 1, 1, 1), true);
        }
    }

    private static void pokeWithoutTheForm() {
        checks.sentence("13: it has not the form");
        for (int[] row : Forms.refused()) {
            BlockCode code = Programs.sealed(Programs.filled(20, Programs.end(9), Programs.set(2, 3)));
            for (int i : new int[] {0, 19}) {
                checks.due("poke of " + i + Forms.written(row), code.poke(i, row[0], row[1], row[2], row[3]), false);
            }
            checks.dueResult("nothing changed", code, 0, 1, 2, 3, 0);
            checks.dueResult("nothing changed", code, 19, 10, 0, 9, 0);
        }
    }

    private static void pokeOfNames() {
        checks.sentence("13: or names an instruction that the source has not");
        for (int length = 1; length <= 20; length++) {
            BlockCode code = Programs.sealed(Programs.filled(length, Programs.end(9)));
            for (int name = -1; name <= 20; name++) {
                boolean there = name >= 0 && name < length;
                checks.due("an 8 to " + name + " of " + length, code.poke(0, 8, 0, name, 0), there);
                checks.due("a 9 to " + name + " of " + length, code.poke(0, 9, 0, 0, name), there);
            }
        }
        BlockCode one = Programs.sealed(Programs.end(9));
        checks.due("a set is no name", one.poke(0, 10, 0, 31, 0), true);
        checks.due("a register is no name", one.poke(0, 9, 0, 4, 0), true);
        checks.due("an int is no name", one.poke(0, 1, 0, 19, 0), true);
        checks.due("a number that is not said is no name", one.poke(0, 8, 19, 0, 19), true);
        checks.due("a number that is not said is no name", one.poke(0, 10, 19, 0, 19), true);
    }

    private static void compareAnswersTheLeader() {
        checks.sentence("14: 0 if all blocks gone through are alike, else 1 + the leader of the first that is not");
        int[][] rows = new int[20][];
        for (int i = 0; i < 19; i++) {
            rows[i] = Programs.branch(i % 5, 19 - i);
        }
        rows[19] = Programs.end(0);
        BlockCode code = Programs.sealed(rows);
        checks.due("all are alike", code.compare(), 0);
        for (int leader = 19; leader >= 0; leader--) {
            checks.due("not alike from " + leader + " on", compared(code, leader, Programs.end(31)), 1 + leader);
        }
        for (int leader = 0; leader <= 18; leader++) {
            checks.due("not alike behind " + leader, compared(code, leader, rows[leader]), 2 + leader);
        }
        checks.due("all are alike again", compared(code, 19, rows[19]), 0);
        int[][] late = Programs.filled(20, Programs.go(7));
        checks.due("the leader, not the place that differs",
                compared(Programs.sealed(late), 18, Programs.end(0)), 8);
    }

    private static void compareThrows() {
        checks.sentence("14: IllegalStateException if the source is not sealed");
        BlockCode code = new BlockCode();
        checks.dueState("empty", code::compare);
        code.add(0, 0, 0, 0);
        code.seal();
        checks.dueState("a seal that is refused", code::compare);
        code.add(10, 0, 0, 0);
        checks.dueState("not sealed", code::compare);
        code.seal();
        checks.due("sealed", code.compare(), 0);
        checks.due("commit", code.commit(), true);
        checks.due("it stays sealed", code.compare(), 0);
        code.clear();
        checks.dueState("cleared", code::compare);
    }

    private static void commitBehindACompare() {
        checks.sentence("15: If compare() answered 0 since the result changed last");
        BlockCode never = Programs.sealed(Programs.set(0, 1), Programs.end(1));
        checks.due("never compared", never.commit(), false);
        checks.due("compare", never.compare(), 0);
        checks.due("compared", never.commit(), true);
        BlockCode other = Programs.sealed(Programs.set(0, 1), Programs.end(1));
        checks.due("not alike", compared(other, 0, Programs.set(0, 2)), 1);
        checks.due("compared, but not 0", other.commit(), false);
        checks.dueSource("the source stays", other, 0, 1, 0, 1, 0);
        BlockCode twice = Programs.sealed(Programs.set(0, 1), Programs.end(1));
        checks.due("compare", twice.compare(), 0);
        checks.due("compare", twice.compare(), 0);
        checks.due("compared twice", twice.commit(), true);
    }

    private static void commitBehindAChange() {
        checks.sentence("15: the result changed last (by seal, constants, repeats, unneeded, poke, also where that"
                + " changed nothing)");
        BlockCode code = Programs.sealed(Programs.set(0, 1), Programs.end(1));
        code.compare();
        checks.due("constants", code.constants(), 0);
        checks.due("behind constants", code.commit(), false);
        code.compare();
        checks.due("repeats", code.repeats(), 0);
        checks.due("behind repeats", code.commit(), false);
        code.compare();
        checks.due("unneeded", code.unneeded(), 0);
        checks.due("behind unneeded", code.commit(), false);
        code.compare();
        checks.due("poke", code.poke(0, 1, 0, 1, 0), true);
        checks.due("behind poke", code.commit(), false);
        code.compare();
        code.clear();
        Programs.addAll(code, Programs.set(0, 1), Programs.end(1));
        code.seal();
        checks.due("behind seal", code.commit(), false);
        code.compare();
        checks.due("a poke that is refused", code.poke(0, 11, 0, 0, 0), false);
        checks.due("a poke that is refused", code.poke(2, 0, 0, 0, 0), false);
        checks.due("a poke that is refused", code.poke(0, 8, 0, 2, 0), false);
        checks.dueState("a seal that throws", code::seal);
        checks.due("does not change it", code.commit(), true);
    }

    private static void commitOnlyOnce() {
        checks.sentence("15: it must be compared again for another commit");
        BlockCode code = Programs.sealed(Programs.set(0, 1), Programs.end(1));
        for (int k = 0; k < 3; k++) {
            checks.due("compare", code.compare(), 0);
            checks.due("commit", code.commit(), true);
            checks.due("commit again", code.commit(), false);
            checks.due("and again", code.commit(), false);
        }
    }

    private static void commitWithoutAResult() {
        checks.sentence("15: Else false");
        BlockCode code = new BlockCode();
        checks.due("empty", code.commit(), false);
        code.add(10, 0, 0, 0);
        checks.due("not sealed", code.commit(), false);
        code.seal();
        code.compare();
        code.clear();
        checks.due("cleared", code.commit(), false);
        checks.due("size", code.size(), 0);
    }

    private static void commitByTheLastOp() {
        checks.sentence("15: false too if the last instruction of the result is not 8 or 10");
        for (int op = 0; op <= 10; op++) {
            boolean good = op == 8 || op == 10;
            for (int length : new int[] {2, 20}) {
                BlockCode code = Programs.sealed(Programs.filled(length, Programs.end(0), Programs.end(0)));
                checks.due("alike", compared(code, length - 1, new int[] {op, 0, 0, 0}), 0);
                checks.due("a last " + op, code.commit(), good);
                checks.due("the source", code.source(length - 1, 0), good ? op : 10);
                checks.due("the result", code.result(length - 1, 0), op);
                checks.due("again", code.commit(), false);
            }
        }
        BlockCode before = Programs.sealed(Programs.set(0, 1), Programs.nothing(), Programs.end(1));
        checks.due("alike", compared(before, 1, Programs.end(1)), 0);
        checks.due("the last alone counts", before.commit(), true);
    }

    private static void commitMakesTheSource() {
        checks.sentence("15: the source becomes the result (and stays sealed): true");
        int[][] rows = new int[20][];
        Arrays.fill(rows, Programs.plus(3, 1, 2));
        rows[19] = Programs.end(8);
        BlockCode code = Programs.sealed(rows);
        checks.due("repeats", code.repeats(), 18);
        checks.due("compare", code.compare(), 0);
        checks.due("commit", code.commit(), true);
        checks.dueSource("the first", code, 0, 3, 3, 1, 2);
        for (int i = 1; i <= 18; i++) {
            checks.dueSource("committed", code, i, 0, 0, 0, 0);
            checks.dueResult("the result stays", code, i, 0, 0, 0, 0);
        }
        checks.dueSource("the last", code, 19, 10, 0, 8, 0);
        checks.due("size", code.size(), 20);
        checks.due("repeats of the new source", code.repeats(), 0);
        checks.dueState("add", () -> code.add(0, 0, 0, 0));
        checks.dueState("seal", code::seal);
        BlockCode blocks = Programs.sealed(Programs.go(1), Programs.set(0, 1), Programs.end(1));
        checks.due("alike", compared(blocks, 0, Programs.nothing()), 0);
        checks.due("commit", blocks.commit(), true);
        checks.due("blocks of the new source", compared(blocks, 1, Programs.set(0, 2)), 1);
    }
}
