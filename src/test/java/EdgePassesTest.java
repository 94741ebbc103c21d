/** The edges that promises 10 to 12 and their terms name, each sentence in a test of its own. */
public final class EdgePassesTest {
    private static final int MIN = Integer.MIN_VALUE;
    private static final int MAX = Integer.MAX_VALUE;
    private static final Checks checks = new Checks();

    public static void main(String[] args) {
        constantsReached();
        constantsOfOpsTwoToSeven();
        constantsOfDivisions();
        constantsOfBranches();
        constantsFromTheSource();
        constantsCount();
        constantsThrow();
        repeatsAtTheBeginning();
        repeatsOfInts();
        repeatsOfCopies();
        repeatsOfValues();
        repeatsJustBefore();
        repeatsOfTheLeast();
        repeatsOfItself();
        repeatsOfOpsThreeToSeven();
        repeatsFromTheSource();
        repeatsCount();
        repeatsThrow();
        unneededOps();
        unneededBehind();
        unneededInTheSource();
        unneededFromTheSource();
        unneededCount();
        unneededThrow();
        checks.end("EdgePassesTest");
    }

    private static void dueThrows(String what, BlockCode code, Checks.Call pass) {
        checks.dueState(what + ", empty", pass);
        Programs.addAll(code, Programs.set(0, 1));
        checks.dueState(what + ", cannot be sealed", pass);
        code.seal();
        checks.dueState(what + ", a seal that is refused", pass);
        Programs.addAll(code, Programs.end(1));
        checks.dueState(what + ", not sealed", pass);
        checks.due(what + ", no result", code.result(0, 0), -9);
        code.seal();
        checks.due(what + ", sealed", pass.answer(), 0);
        code.clear();
        checks.dueState(what + ", cleared", pass);
        checks.due(what + ", no result", code.result(0, 0), -9);
    }

    private static void constantsReached() {
        checks.sentence("CONSTANTS: .. each instruction that is reached");
        BlockCode code = Programs.sealed(Programs.set(0, 1), Programs.copy(1, 0), Programs.go(5),
                Programs.copy(1, 0), Programs.branch(0, 0), Programs.copy(2, 0), Programs.end(6));
        checks.due("constants", code.constants(), 2);
        checks.dueResult("reached", code, 1, 1, 1, 1, 0);
        checks.dueResult("not reached", code, 3, 2, 1, 0, 0);
        checks.dueResult("not reached", code, 4, 9, 0, 0, 0);
        checks.dueResult("reached", code, 5, 1, 2, 1, 0);
    }

    private static void constantsOfOpsTwoToSeven() {
        checks.sentence("and 2 to 7 whose value is known (one int by the facts ..) becomes 1 with that value");
        int[] values = {0, 0, 6, 8, 4, 12, 3, 0};
        for (int op = 2; op <= 7; op++) {
            int[] row = {op, 4, 0, op == 2 ? 0 : 1};
            BlockCode both = Programs.sealed(Programs.set(0, 6), Programs.set(1, 2), row, Programs.end(16));
            checks.due("op " + op, both.constants(), 1);
            checks.dueResult("op " + op, both, 2, 1, 4, values[op], 0);
            BlockCode none = Programs.sealed(Programs.set(2, 6), Programs.set(3, 2), row, Programs.end(16));
            checks.due("op " + op + " of any", none.constants(), 0);
            checks.dueResult("op " + op + " of any", none, 2, row);
            if (op > 2) {
                BlockCode left = Programs.sealed(Programs.set(0, 0), row, Programs.end(16));
                checks.due("op " + op + " of an int and any", left.constants(), 0);
                BlockCode right = Programs.sealed(Programs.set(1, 1), row, Programs.end(16));
                checks.due("op " + op + " of any and an int", right.constants(), 0);
            }
        }
        BlockCode rest = Programs.sealed(Programs.nothing(), Programs.set(0, 1), Programs.set(0, 1),
                Programs.go(4), Programs.end(1));
        checks.due("0, 1, 8 and 10 stay", rest.constants(), 0);
    }

    private static void constantsOfDivisions() {
        checks.sentence("for a 6 with a divisor that is an int other than 0");
        for (int divisor : new int[] {MIN, -1, 0, 1, MAX}) {
            BlockCode code = Programs.sealed(Programs.set(0, 0), Programs.set(1, divisor),
                    Programs.divided(2, 0, 1), Programs.end(4));
            checks.due("0 by " + divisor, code.constants(), divisor == 0 ? 0 : 1);
            checks.due("0 by " + divisor, code.result(2, 0), divisor == 0 ? 6 : 1);
            BlockCode open = Programs.sealed(Programs.set(1, divisor), Programs.divided(2, 0, 1),
                    Programs.end(4));
            checks.due("any by " + divisor, open.constants(), 0);
        }
        BlockCode behind = Programs.sealed(Programs.set(1, 0), Programs.divided(2, 0, 1), Programs.copy(3, 1),
                Programs.end(8));
        checks.due("what is behind a 6 by 0 is not reached", behind.constants(), 0);
    }

    private static void constantsOfBranches() {
        checks.sentence("a 9 whose register is an int becomes 8 to b, or 0");
        for (int test : new int[] {MIN, -1, 0, 1, MAX}) {
            BlockCode code = Programs.sealed(Programs.filled(20, Programs.end(0),
                    Programs.set(4, test), Programs.branch(4, 19)));
            checks.due("a 9 of " + test, code.constants(), 1);
            checks.dueResult("a 9 of " + test, code, 1, test == 0 ? 0 : 8, 0, test == 0 ? 0 : 19, 0);
        }
        BlockCode any = Programs.sealed(Programs.branch(4, 1), Programs.end(0));
        checks.due("a 9 of any", any.constants(), 0);
        BlockCode zero = Programs.sealed(Programs.set(0, 1), Programs.branch(0, 0), Programs.end(0));
        checks.due("a 9 to 0", zero.constants(), 1);
        checks.dueResult("a 9 to 0", zero, 1, 8, 0, 0, 0);
    }

    private static void constantsFromTheSource() {
        checks.sentence("CONSTANTS: the result becomes the source, but ..");
        BlockCode code = Programs.sealed(Programs.filled(20, Programs.end(1), Programs.set(0, 1)));
        for (int i = 0; i <= 19; i++) {
            checks.due("poke", code.poke(i, 1, 4, 4, 0), true);
        }
        checks.due("constants", code.constants(), 0);
        checks.dueResult("the first", code, 0, 1, 0, 1, 0);
        checks.dueResult("the second", code, 1, 0, 0, 0, 0);
        checks.dueResult("the last", code, 19, 10, 0, 1, 0);
        checks.due("nothing behind it", code.result(20, 0), -9);
    }

    private static void constantsCount() {
        checks.sentence("10: how many instructions of the result differ from the source");
        checks.due("none of one", Programs.sealed(Programs.end(0)).constants(), 0);
        checks.due("none of twenty", Programs.sealed(Programs.filled(20, Programs.end(0))).constants(), 0);
        for (int many = 1; many <= 18; many++) {
            int[][] rows = Programs.filled(20, Programs.end(0), Programs.set(0, 0));
            for (int i = 1; i <= many; i++) {
                rows[i] = i % 2 == 0 ? Programs.branch(0, 0) : Programs.plus(1, 0, 0);
            }
            checks.due("as many", Programs.sealed(rows).constants(), many);
        }
    }

    private static void constantsThrow() {
        checks.sentence("10: IllegalStateException if the source is not sealed");
        BlockCode code = new BlockCode();
        dueThrows("constants", code, code::constants);
    }

    private static void repeatsAtTheBeginning() {
        checks.sentence("REPEATS: .. in each block .. at its beginning register r holds \"r\"");
        BlockCode named = Programs.sealed(Programs.plus(2, 0, 1), Programs.plus(3, 0, 1), Programs.go(3),
                Programs.plus(3, 0, 1), Programs.plus(4, 0, 1), Programs.end(28));
        checks.due("one in each block", named.repeats(), 2);
        checks.dueResult("the second of the first block", named, 1, 2, 3, 2, 0);
        checks.dueResult("the first of the second block", named, 3, 3, 3, 0, 1);
        checks.dueResult("the second of the second block", named, 4, 2, 4, 3, 0);
        BlockCode known = Programs.sealed(Programs.set(0, 5), Programs.set(1, 5), Programs.go(3),
                Programs.plus(3, 0, 2), Programs.plus(4, 1, 2), Programs.end(24));
        checks.due("ints that the facts know are not held", known.repeats(), 0);
        BlockCode dead = Programs.sealed(Programs.end(0), Programs.plus(2, 0, 1), Programs.plus(2, 0, 1),
                Programs.end(4));
        checks.due("in a block that is not reached too", dead.repeats(), 1);
    }

    private static void repeatsOfInts() {
        checks.sentence("after a 1 the int");
        for (int value : new int[] {MIN, -1, 0, 1, 4, MAX}) {
            BlockCode same = Programs.sealed(Programs.set(0, value), Programs.plus(3, 0, 2),
                    Programs.set(1, value), Programs.plus(4, 1, 2), Programs.end(24));
            checks.due("the same int " + value, same.repeats(), 1);
            BlockCode next = Programs.sealed(Programs.set(0, value), Programs.plus(3, 0, 2),
                    Programs.set(1, value + 1), Programs.plus(4, 1, 2), Programs.end(24));
            checks.due("another int than " + value, next.repeats(), 0);
        }
        BlockCode register = Programs.sealed(Programs.set(0, 1), Programs.plus(3, 0, 2), Programs.plus(4, 1, 2),
                Programs.end(24));
        checks.due("the int 1 is not register 1", register.repeats(), 0);
    }

    private static void repeatsOfCopies() {
        checks.sentence("after a 2 the same as a");
        BlockCode code = Programs.sealed(Programs.copy(4, 0), Programs.plus(2, 0, 1), Programs.set(0, 1),
                Programs.plus(3, 4, 1), Programs.plus(0, 0, 1), Programs.end(13));
        checks.due("a copy", code.repeats(), 1);
        checks.dueResult("of register 0 in 4", code, 3, 2, 3, 2, 0);
    }

    private static void repeatsOfValues() {
        checks.sentence("after a 3 to 7 \"op, value of a, value of b\"");
        for (int op = 3; op <= 7; op++) {
            for (int other = 3; other <= 7; other++) {
                BlockCode code = Programs.sealed(new int[] {op, 2, 0, 1}, new int[] {other, 3, 0, 1},
                        Programs.end(12));
                checks.due(op + " and " + other, code.repeats(), op == other ? 1 : 0);
            }
            BlockCode turned = Programs.sealed(new int[] {op, 2, 0, 1}, new int[] {op, 3, 1, 0},
                    Programs.end(12));
            checks.due(op + " turned round", turned.repeats(), 0);
            BlockCode ints = Programs.sealed(Programs.set(0, 1), Programs.set(1, 1), Programs.set(2, 1),
                    new int[] {op, 3, 0, 1}, Programs.end(8));
            checks.due(op + " of ints is no int", ints.repeats(), 0);
        }
        BlockCode zero = Programs.sealed(Programs.set(1, 0), Programs.divided(2, 0, 1), Programs.divided(3, 0, 1),
                Programs.end(12));
        checks.due("a 6 by 0 has a value too", zero.repeats(), 1);
    }

    private static void repeatsJustBefore() {
        checks.sentence("whose value is held by some register just before it");
        BlockCode gone = Programs.sealed(Programs.plus(2, 0, 1), Programs.set(2, 0), Programs.plus(3, 0, 1),
                Programs.end(12));
        checks.due("held no more", gone.repeats(), 0);
        BlockCode moved = Programs.sealed(Programs.plus(2, 0, 1), Programs.copy(4, 2), Programs.set(2, 0),
                Programs.plus(3, 0, 1), Programs.end(12));
        checks.due("held by another", moved.repeats(), 1);
        checks.dueResult("held by another", moved, 3, 2, 3, 4, 0);
        BlockCode own = Programs.sealed(Programs.plus(0, 0, 1), Programs.plus(0, 0, 1), Programs.end(1));
        checks.due("its own value is held behind it alone", own.repeats(), 0);
        int[][] rows = Programs.filled(20, Programs.end(4), Programs.plus(2, 0, 1));
        rows[18] = Programs.plus(3, 0, 1);
        checks.due("across a full block", Programs.sealed(rows).repeats(), 1);
    }

    private static void repeatsOfTheLeast() {
        checks.sentence("becomes 2 from the least such register");
        for (int least = 0; least <= 3; least++) {
            int[][] rows = Programs.filled(9, Programs.end(31), Programs.copy(4, 4), Programs.plus(3, 4, 4));
            for (int r = 3; r > least; r--) {
                rows[5 - r] = Programs.copy(r - 1, r);
            }
            rows[7] = Programs.plus(4, 4, 4);
            BlockCode code = Programs.sealed(rows);
            checks.due("repeats", code.repeats(), 1);
            checks.dueResult("the least of those from " + least + " to 3", code, 7, 2, 4, least, 0);
        }
    }

    private static void repeatsOfItself() {
        checks.sentence("or 0 if that is d");
        for (int d = 0; d <= 2; d++) {
            BlockCode code = Programs.sealed(Programs.plus(d, 3, 4), Programs.plus(d, 3, 4), Programs.end(31));
            checks.due("repeats", code.repeats(), 1);
            checks.dueResult("into register " + d, code, 1, 0, 0, 0, 0);
        }
        BlockCode lesser = Programs.sealed(Programs.plus(1, 3, 4), Programs.copy(0, 1), Programs.plus(1, 3, 4),
                Programs.end(3));
        checks.due("repeats", lesser.repeats(), 1);
        checks.dueResult("d holds it too, but another is less", lesser, 2, 2, 1, 0, 0);
        BlockCode greater = Programs.sealed(Programs.plus(0, 3, 4), Programs.copy(1, 0), Programs.plus(0, 3, 4),
                Programs.end(3));
        checks.due("repeats", greater.repeats(), 1);
        checks.dueResult("another holds it too, but d is less", greater, 2, 0, 0, 0, 0);
    }

    private static void repeatsOfOpsThreeToSeven() {
        checks.sentence("A 3 to 7 whose value is held");
        for (int op = 1; op <= 7; op++) {
            int[] row = {op, 2, 0, op > 2 ? 1 : 0};
            BlockCode code = Programs.sealed(row, row, Programs.end(4));
            checks.due("op " + op + " twice", code.repeats(), op < 3 ? 0 : 1);
            checks.dueResult("the first", code, 0, row);
            checks.dueResult("the second", code, 1, op < 3 ? row : new int[4]);
        }
        BlockCode branches = Programs.sealed(Programs.branch(0, 1), Programs.branch(0, 2), Programs.end(0));
        checks.due("9 twice", branches.repeats(), 0);
    }

    private static void repeatsFromTheSource() {
        checks.sentence("REPEATS: the result becomes the source, but ..");
        BlockCode code = Programs.sealed(Programs.filled(20, Programs.end(1), Programs.plus(0, 1, 2)));
        for (int i = 0; i <= 19; i++) {
            checks.due("poke", code.poke(i, 3, 0, 1, 2), true);
        }
        checks.due("repeats", code.repeats(), 0);
        checks.dueResult("the first", code, 0, 3, 0, 1, 2);
        checks.dueResult("the second", code, 1, 0, 0, 0, 0);
        checks.dueResult("the last", code, 19, 10, 0, 1, 0);
        checks.due("nothing behind it", code.result(20, 0), -9);
    }

    private static void repeatsCount() {
        checks.sentence("11: how many instructions of the result differ from the source");
        checks.due("none of one", Programs.sealed(Programs.end(0)).repeats(), 0);
        checks.due("none of twenty", Programs.sealed(Programs.filled(20, Programs.end(0))).repeats(), 0);
        for (int many = 1; many <= 18; many++) {
            int[][] rows = Programs.filled(20, Programs.end(0), Programs.divided(1, 2, 3));
            for (int i = 1; i <= many; i++) {
                rows[i] = Programs.divided(i % 2, 2, 3);
            }
            checks.due("as many", Programs.sealed(rows).repeats(), many);
        }
    }

    private static void repeatsThrow() {
        checks.sentence("11: IllegalStateException if the source is not sealed");
        BlockCode code = new BlockCode();
        dueThrows("repeats", code, code::repeats);
    }

    private static void unneededOps() {
        checks.sentence("UNNEEDED: .. each 1 to 5 and 7 whose register is not needed .. becomes 0");
        for (int op = 0; op <= 10; op++) {
            int[] row = Forms.kept(new int[] {op, 4, 1, 1});
            BlockCode code = Programs.sealed(row, Programs.end(15));
            boolean gone = op >= 1 && op <= 5 || op == 7;
            checks.due("op " + op, code.unneeded(), gone ? 1 : 0);
            checks.dueResult("op " + op, code, 0, gone ? new int[4] : row);
        }
    }

    private static void unneededBehind() {
        checks.sentence("not needed behind it (before the next instruction)");
        for (int r = 0; r <= 4; r++) {
            BlockCode before = Programs.sealed(Programs.plus(r, r, r), Programs.end(31 - (1 << r)));
            checks.due("needed before it alone", before.unneeded(), 1);
            BlockCode behind = Programs.sealed(Programs.plus(r, r, r), Programs.end(1 << r));
            checks.due("needed behind it", behind.unneeded(), 0);
        }
        int[][] rows = Programs.filled(20, Programs.end(0), Programs.set(3, 1));
        rows[18] = Programs.divided(0, 3, 3);
        checks.due("needed by the one before the last", Programs.sealed(rows).unneeded(), 0);
        BlockCode next = Programs.sealed(Programs.set(0, 1), Programs.set(0, 2), Programs.end(1));
        checks.due("made anew by the next", next.unneeded(), 1);
        checks.dueResult("the first", next, 0, 0, 0, 0, 0);
        checks.dueResult("the second", next, 1, 1, 0, 2, 0);
        BlockCode dead = Programs.sealed(Programs.go(2), Programs.set(0, 1), Programs.end(0));
        checks.due("one that is not reached too", dead.unneeded(), 1);
    }

    private static void unneededInTheSource() {
        checks.sentence("not needed .. in the source");
        BlockCode code = Programs.sealed(Programs.set(0, 1), Programs.copy(1, 0), Programs.copy(2, 1),
                Programs.end(0));
        checks.due("the last of a chain alone", code.unneeded(), 1);
        checks.dueResult("the last of a chain", code, 2, 0, 0, 0, 0);
        checks.due("the same again", code.unneeded(), 1);
        code.poke(3, 10, 0, 4, 0);
        checks.due("the needs of the result do not count", code.unneeded(), 1);
    }

    private static void unneededFromTheSource() {
        checks.sentence("UNNEEDED: the result becomes the source, but ..");
        BlockCode code = Programs.sealed(Programs.filled(20, Programs.end(1), Programs.set(0, 1)));
        for (int i = 0; i <= 19; i++) {
            checks.due("poke", code.poke(i, 1, 4, 4, 0), true);
        }
        checks.due("unneeded", code.unneeded(), 0);
        checks.dueResult("the first", code, 0, 1, 0, 1, 0);
        checks.dueResult("the second", code, 1, 0, 0, 0, 0);
        checks.dueResult("the last", code, 19, 10, 0, 1, 0);
        checks.due("nothing behind it", code.result(20, 0), -9);
    }

    private static void unneededCount() {
        checks.sentence("12: how many instructions of the result differ from the source");
        checks.due("none of one", Programs.sealed(Programs.end(0)).unneeded(), 0);
        checks.due("none of twenty", Programs.sealed(Programs.filled(20, Programs.end(0))).unneeded(), 0);
        for (int many = 1; many <= 19; many++) {
            int[][] rows = Programs.filled(20, Programs.end(0));
            for (int i = 0; i < many; i++) {
                rows[i] = Programs.set(i % 5, i);
            }
            checks.due("as many", Programs.sealed(rows).unneeded(), many);
        }
    }

    private static void unneededThrow() {
        checks.sentence("12: IllegalStateException if the source is not sealed");
        BlockCode code = new BlockCode();
        dueThrows("unneeded", code, code::unneeded);
    }
}
