/** Promises 10 to 12: constants, repeats, unneeded. */
public final class PassesTest {
    private static final Checks checks = new Checks();

    public static void main(String[] args) {
        passesThrow();
        constantsOfEachOp();
        constantsOfBranches();
        constantsOfDivisions();
        constantsWhereNotReached();
        repeatsFindValues();
        repeatsChooseTheLeast();
        repeatsKeepWhatChanged();
        repeatsStayInBlocks();
        repeatsDoNotCount();
        unneededOfEachOp();
        unneededLooksBehind();
        passesStartFromTheSource();
        passesOfFullAndShorterPrograms();
        checks.end("PassesTest");
    }

    private static void passesThrow() {
        BlockCode code = Programs.added(Programs.end(0));
        checks.dueState("10: not sealed", code::constants);
        checks.dueState("11: not sealed", code::repeats);
        checks.dueState("12: not sealed", code::unneeded);
        checks.due("10: still no result", code.result(0, 0), -9);
        code.seal();
        checks.due("10: nothing differs", code.constants(), 0);
        checks.due("11: nothing differs", code.repeats(), 0);
        checks.due("12: nothing differs", code.unneeded(), 0);
    }

    private static void dueRow(String what, BlockCode code, int i, int[] want) {
        for (int field = 0; field < 4; field++) {
            checks.due(what + ", number " + field + " of " + i, code.result(i, field), want[field]);
        }
    }

    private static void constantsOfEachOp() {
        BlockCode code = Programs.sealed(Programs.set(0, -7), Programs.set(1, 2),
                Programs.copy(2, 0), Programs.plus(3, 0, 1), Programs.minus(3, 0, 1),
                Programs.times(3, 0, 1), Programs.divided(3, 0, 1), Programs.less(3, 0, 1),
                Programs.plus(4, 4, 1), Programs.copy(3, 4), Programs.nothing(), Programs.end(31));
        checks.due("10: constants", code.constants(), 6);
        int[][] want = {
            {1, 0, -7, 0}, {1, 1, 2, 0}, {1, 2, -7, 0}, {1, 3, -5, 0}, {1, 3, -9, 0}, {1, 3, -14, 0},
            {1, 3, -3, 0}, {1, 3, 1, 0}, {3, 4, 4, 1}, {2, 3, 4, 0}, {0, 0, 0, 0}, {10, 0, 31, 0},
        };
        for (int i = 0; i < want.length; i++) {
            dueRow("10: constants", code, i, want[i]);
        }
        checks.due("10: the source stays", code.source(3, 0), 3);
    }

    private static void constantsOfBranches() {
        BlockCode code = Programs.sealed(Programs.set(0, -1), Programs.branch(0, 3),
                Programs.end(0), Programs.set(0, 0), Programs.branch(0, 2), Programs.branch(1, 2),
                Programs.end(1));
        checks.due("10: branches", code.constants(), 2);
        dueRow("10: an int other than 0", code, 1, Programs.go(3));
        dueRow("10: the int 0", code, 4, Programs.nothing());
        dueRow("10: any", code, 5, Programs.branch(1, 2));
    }

    private static void constantsOfDivisions() {
        BlockCode zero = Programs.sealed(Programs.set(0, 0), Programs.set(1, 4),
                Programs.divided(1, 1, 0), Programs.copy(2, 0), Programs.end(4));
        checks.due("10: a 6 by the int 0 stays", zero.constants(), 0);
        dueRow("10: a 6 by the int 0 stays", zero, 2, Programs.divided(1, 1, 0));
        BlockCode half = Programs.sealed(Programs.set(0, 0), Programs.divided(1, 0, 2),
                Programs.set(2, 1), Programs.divided(3, 4, 2), Programs.end(4));
        checks.due("10: a 6 with one int stays", half.constants(), 0);
    }

    private static void constantsWhereNotReached() {
        BlockCode code = Programs.sealed(Programs.set(0, 1), Programs.go(4),
                Programs.copy(1, 0), Programs.branch(0, 0), Programs.copy(1, 0), Programs.end(2));
        checks.due("10: only what is reached", code.constants(), 1);
        dueRow("10: not reached", code, 2, Programs.copy(1, 0));
        dueRow("10: not reached", code, 3, Programs.branch(0, 0));
        dueRow("10: reached", code, 4, Programs.set(1, 1));
    }

    private static void repeatsFindValues() {
        for (int op = 3; op <= 7; op++) {
            BlockCode code = Programs.sealed(new int[] {op, 2, 0, 1}, new int[] {op, 3, 0, 1},
                    new int[] {op, 4, 1, 0}, new int[] {op, 2, 0, 1}, Programs.end(28));
            checks.due("11: repeats of " + op, code.repeats(), 2);
            dueRow("11: the first stays", code, 0, new int[] {op, 2, 0, 1});
            dueRow("11: a repeat", code, 1, Programs.copy(3, 2));
            dueRow("11: operands turned round", code, 2, new int[] {op, 4, 1, 0});
            dueRow("11: a repeat into its own register", code, 3, Programs.nothing());
            checks.due("11: the source stays", code.source(1, 0), op);
        }
        BlockCode through = Programs.sealed(Programs.copy(2, 0), Programs.plus(3, 0, 1),
                Programs.plus(4, 2, 1), Programs.end(24));
        checks.due("11: values through a 2", through.repeats(), 1);
        dueRow("11: values through a 2", through, 2, Programs.copy(4, 3));
        BlockCode ints = Programs.sealed(Programs.set(0, 5), Programs.set(1, 5),
                Programs.plus(2, 0, 4), Programs.plus(3, 1, 4), Programs.end(12));
        checks.due("11: values of the same int", ints.repeats(), 1);
        BlockCode deep = Programs.sealed(Programs.plus(2, 0, 1), Programs.times(3, 2, 2),
                Programs.plus(2, 0, 1), Programs.times(4, 2, 2), Programs.end(31));
        checks.due("11: values of values", deep.repeats(), 2);
        dueRow("11: values of values", deep, 3, Programs.copy(4, 3));
    }

    private static void repeatsChooseTheLeast() {
        BlockCode code = Programs.sealed(Programs.plus(4, 0, 1), Programs.copy(3, 4),
                Programs.plus(2, 0, 1), Programs.plus(4, 0, 1), Programs.end(28));
        checks.due("11: the least register", code.repeats(), 2);
        dueRow("11: the least register", code, 2, Programs.copy(2, 3));
        dueRow("11: a lesser one than its own", code, 3, Programs.copy(4, 2));
        BlockCode own = Programs.sealed(Programs.plus(2, 0, 1), Programs.copy(3, 2),
                Programs.plus(2, 0, 1), Programs.end(28));
        checks.due("11: its own is the least", own.repeats(), 1);
        dueRow("11: its own is the least", own, 2, Programs.nothing());
        BlockCode zero = Programs.sealed(Programs.plus(0, 1, 2), Programs.plus(3, 1, 2), Programs.end(9));
        checks.due("11: from register 0", zero.repeats(), 1);
        dueRow("11: from register 0", zero, 1, Programs.copy(3, 0));
    }

    private static void repeatsKeepWhatChanged() {
        BlockCode operand = Programs.sealed(Programs.plus(2, 0, 1), Programs.set(0, 3),
                Programs.plus(3, 0, 1), Programs.end(12));
        checks.due("11: an operand changed", operand.repeats(), 0);
        BlockCode holder = Programs.sealed(Programs.plus(2, 0, 1), Programs.copy(2, 4),
                Programs.plus(3, 0, 1), Programs.end(12));
        checks.due("11: the holder changed", holder.repeats(), 0);
        BlockCode itself = Programs.sealed(Programs.plus(0, 0, 1), Programs.plus(0, 0, 1), Programs.end(1));
        checks.due("11: an operand that is made too", itself.repeats(), 0);
        BlockCode restored = Programs.sealed(Programs.copy(4, 0), Programs.plus(2, 0, 1),
                Programs.set(0, 9), Programs.copy(0, 4), Programs.plus(3, 0, 1), Programs.end(12));
        checks.due("11: an operand changed and came back", restored.repeats(), 1);
    }

    private static void repeatsStayInBlocks() {
        BlockCode named = Programs.sealed(Programs.plus(2, 0, 1), Programs.plus(3, 0, 1),
                Programs.branch(4, 1), Programs.plus(2, 0, 1), Programs.end(12));
        checks.due("11: a new block knows nothing", named.repeats(), 0);
        BlockCode dead = Programs.sealed(Programs.end(0), Programs.plus(2, 0, 1),
                Programs.plus(3, 0, 1), Programs.end(12));
        checks.due("11: a block that is not reached too", dead.repeats(), 1);
        dueRow("11: a block that is not reached too", dead, 2, Programs.copy(3, 2));
    }

    private static void repeatsDoNotCount() {
        BlockCode folded = Programs.sealed(Programs.set(0, 2), Programs.set(1, 3), Programs.set(2, 5),
                Programs.plus(3, 0, 1), Programs.end(8));
        checks.due("11: 2 plus 3 is not the value 5", folded.repeats(), 0);
        BlockCode unfolded = Programs.sealed(Programs.set(0, 2), Programs.set(1, 3),
                Programs.plus(3, 0, 1), Programs.plus(4, 0, 1), Programs.end(24));
        checks.due("11: but it is a value", unfolded.repeats(), 1);
        dueRow("11: but it is a value", unfolded, 3, Programs.copy(4, 3));
        BlockCode simple = Programs.sealed(Programs.set(0, 2), Programs.set(1, 2),
                Programs.copy(2, 1), Programs.copy(2, 1), Programs.end(7));
        checks.due("11: 1 and 2 stay", simple.repeats(), 0);
        BlockCode kinds = Programs.sealed(Programs.set(0, 1), Programs.plus(3, 0, 2),
                Programs.plus(4, 1, 2), Programs.end(24));
        checks.due("11: the int 1 is not register 1", kinds.repeats(), 0);
        BlockCode other = Programs.sealed(Programs.plus(2, 0, 1), Programs.minus(3, 0, 1), Programs.end(12));
        checks.due("11: another op", other.repeats(), 0);
    }

    private static void unneededOfEachOp() {
        for (int op = 1; op <= 7; op++) {
            BlockCode code = Programs.sealed(new int[] {op, 4, 1, op > 2 ? 2 : 0}, Programs.end(15));
            checks.due("12: unneeded " + op, code.unneeded(), op == 6 ? 0 : 1);
            checks.due("12: unneeded " + op, code.result(0, 0), op == 6 ? 6 : 0);
            for (int field = 1; field < 4 && op != 6; field++) {
                checks.due("12: number " + field, code.result(0, field), 0);
            }
            checks.due("12: the source stays", code.source(0, 0), op);
            BlockCode kept = Programs.sealed(new int[] {op, 4, 1, 2}, Programs.end(16));
            checks.due("12: needed " + op, kept.unneeded(), 0);
        }
        BlockCode rest = Programs.sealed(Programs.nothing(), Programs.branch(0, 0), Programs.go(3),
                Programs.end(0));
        checks.due("12: 0, 8, 9 and 10 stay", rest.unneeded(), 0);
    }

    private static void unneededLooksBehind() {
        BlockCode code = Programs.sealed(Programs.plus(0, 0, 0), Programs.set(0, 1), Programs.end(1));
        checks.due("12: made anew before it is read", code.unneeded(), 1);
        dueRow("12: made anew before it is read", code, 0, Programs.nothing());
        BlockCode before = Programs.sealed(Programs.plus(0, 0, 1), Programs.end(0));
        checks.due("12: needed before it alone", before.unneeded(), 1);
        BlockCode chain = Programs.sealed(Programs.set(0, 1), Programs.copy(1, 0), Programs.end(0));
        checks.due("12: needs of the source count, not of the result", chain.unneeded(), 1);
        dueRow("12: the first of two", chain, 0, Programs.set(0, 1));
        checks.due("12: compare", chain.compare(), 0);
        checks.due("12: commit", chain.commit(), true);
        checks.due("12: then the other", chain.unneeded(), 1);
        BlockCode loop = Programs.sealed(Programs.plus(0, 0, 1), Programs.branch(2, 0), Programs.end(0));
        checks.due("12: needed round a loop", loop.unneeded(), 0);
        BlockCode dead = Programs.sealed(Programs.end(0), Programs.set(0, 1), Programs.end(0));
        checks.due("12: where it is not reached too", dead.unneeded(), 1);
    }

    private static void passesStartFromTheSource() {
        BlockCode code = Programs.sealed(Programs.set(0, 1), Programs.plus(1, 2, 3),
                Programs.plus(4, 2, 3), Programs.copy(2, 0), Programs.end(20));
        checks.due("10: constants", code.constants(), 1);
        checks.due("11: repeats", code.repeats(), 1);
        dueRow("11: from the source again", code, 3, Programs.copy(2, 0));
        checks.due("12: unneeded", code.unneeded(), 1);
        dueRow("12: from the source again", code, 2, Programs.plus(4, 2, 3));
        code.poke(4, 10, 0, 0, 0);
        checks.due("10: constants", code.constants(), 1);
        dueRow("10: from the source again", code, 4, Programs.end(20));
        dueRow("10: from the source again", code, 1, Programs.plus(1, 2, 3));
    }

    private static void passesOfFullAndShorterPrograms() {
        int[][] rows = new int[20][];
        rows[0] = Programs.set(0, 1);
        for (int i = 1; i < 19; i++) {
            rows[i] = i % 2 == 1 ? Programs.copy(1, 0) : Programs.plus(2, 0, 3);
        }
        rows[19] = Programs.end(0);
        BlockCode code = Programs.sealed(rows);
        checks.due("10: twenty", code.constants(), 9);
        checks.due("11: twenty", code.repeats(), 8);
        checks.due("12: twenty", code.unneeded(), 18);
        code.clear();
        Programs.addAll(code, Programs.copy(1, 0), Programs.end(2));
        checks.due("4: seal of a shorter one", code.seal(), 1);
        checks.due("10: a shorter one", code.constants(), 0);
        checks.due("11: a shorter one", code.repeats(), 0);
        checks.due("12: a shorter one", code.unneeded(), 0);
        checks.due("7: a shorter one", code.result(2, 0), -9);
        code.clear();
        Programs.addAll(code, Programs.nothing(), Programs.go(0));
        code.seal();
        checks.due("9: needs from before are forgotten", code.needed(0), 0);
        checks.due("8: facts from before are forgotten", code.known(1, 0), 4294967296L);
        checks.due("14: a shorter one", code.compare(), 0);
        BlockCode many = new BlockCode();
        for (int round = 0; round < 20; round++) {
            Programs.addAll(many, Programs.set(0, round), Programs.plus(1, 0, 2), Programs.plus(3, 0, 2),
                    Programs.times(4, 1, 1), Programs.minus(4, 4, 3), Programs.end(0));
            many.seal();
            checks.due("11: values from before are forgotten", many.repeats(), 1);
            many.clear();
        }
    }
}
