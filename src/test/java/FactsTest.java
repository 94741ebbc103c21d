/** Promises 8 and 9: known, needed. */
public final class FactsTest {
    private static final long ANY = 4294967296L;
    private static final long NOT_REACHED = 4294967297L;
    private static final long NO_FACT = 4294967298L;
    private static final int MIN = Integer.MIN_VALUE;
    private static final int MAX = Integer.MAX_VALUE;
    private static final Checks checks = new Checks();

    public static void main(String[] args) {
        knownRefuses();
        knownInLine();
        knownOfEachOp();
        knownWherePathsMeet();
        knownInLoops();
        knownBehindDivisions();
        knownBehindBranches();
        neededRefuses();
        neededOfEachOp();
        neededAlongPaths();
        factsAfterCommit();
        checks.end("FactsTest");
    }

    private static void knownRefuses() {
        BlockCode code = Programs.added(Programs.end(0));
        checks.due("8: not sealed", code.known(0, 0), NO_FACT);
        code.seal();
        checks.due("8: sealed", code.known(0, 4), ANY);
        for (int wrong : new int[] {-1, 5, MIN, MAX}) {
            checks.due("8: register " + wrong, code.known(0, wrong), NO_FACT);
        }
        for (int wrong : new int[] {-1, 1, 20, MIN, MAX}) {
            checks.due("8: instruction " + wrong, code.known(wrong, 0), NO_FACT);
        }
    }

    private static void knownInLine() {
        BlockCode code = Programs.sealed(Programs.set(0, MIN), Programs.copy(1, 0),
                Programs.copy(0, 2), Programs.nothing(), Programs.end(0));
        long[][] want = {
            {ANY, ANY, ANY}, {MIN, ANY, ANY}, {MIN, MIN, ANY}, {ANY, MIN, ANY}, {ANY, MIN, ANY},
        };
        for (int i = 0; i < want.length; i++) {
            for (int r = 0; r < 3; r++) {
                checks.due("8: known(" + i + ", " + r + ")", code.known(i, r), want[i][r]);
            }
        }
        checks.due("8: -1 is an int", Programs.sealed(Programs.set(0, -1), Programs.end(0)).known(1, 0), -1);
        checks.due("8: 0 is an int", Programs.sealed(Programs.set(0, 0), Programs.end(0)).known(1, 0), 0);
    }

    private static void knownOfEachOp() {
        checkOp(3, 7, 8, 15);
        checkOp(3, MAX, 1, MIN);
        checkOp(4, 7, 8, -1);
        checkOp(4, MIN, 1, MAX);
        checkOp(5, -7, 8, -56);
        checkOp(5, 65536, 65536, 0);
        checkOp(5, MAX, MAX, 1);
        checkOp(6, 7, 2, 3);
        checkOp(6, -7, 2, -3);
        checkOp(6, 7, -2, -3);
        checkOp(6, 0, 5, 0);
        checkOp(6, MIN, -1, MIN);
        checkOp(7, 3, 4, 1);
        checkOp(7, 4, 4, 0);
        checkOp(7, 5, 4, 0);
        checkOp(7, MIN, MAX, 1);
        checkOp(7, MAX, MIN, 0);
        for (int op = 3; op <= 7; op++) {
            BlockCode left = Programs.sealed(Programs.set(0, 0), new int[] {op, 2, 0, 1}, Programs.end(0));
            checks.due("8: only a of " + op + " is an int", left.known(2, 2), ANY);
            BlockCode right = Programs.sealed(Programs.set(1, 1), new int[] {op, 2, 0, 1}, Programs.end(0));
            checks.due("8: only b of " + op + " is an int", right.known(2, 2), ANY);
            BlockCode same = Programs.sealed(new int[] {op, 2, 0, 0}, Programs.end(0));
            checks.due("8: the same register twice in " + op, same.known(1, 2), ANY);
        }
    }

    private static void checkOp(int op, int x, int y, int want) {
        BlockCode code = Programs.sealed(Programs.set(0, x), Programs.set(1, y),
                new int[] {op, 0, 0, 1}, Programs.end(1));
        checks.due("8: " + x + " op " + op + " " + y, code.known(3, 0), want);
        checks.due("8: the operand before it", code.known(2, 0), x);
        checks.due("17: run", code.runSource(10), 0);
        checks.due("17: " + x + " op " + op + " " + y, code.told(0), want);
    }

    private static void knownWherePathsMeet() {
        BlockCode code = Programs.sealed(
                Programs.set(3, 6),
                Programs.branch(0, 5),
                Programs.set(1, 4), Programs.set(2, 5), Programs.go(7),
                Programs.set(1, 4), Programs.set(2, 6),
                Programs.end(0));
        checks.due("8: two ints that are the same", code.known(7, 1), 4);
        checks.due("8: two ints that differ", code.known(7, 2), ANY);
        checks.due("8: what no path changes", code.known(7, 3), 6);
        checks.due("8: before the paths part", code.known(5, 2), ANY);
    }

    private static void knownInLoops() {
        BlockCode kept = Programs.sealed(
                Programs.set(1, 1), Programs.set(2, 0),
                Programs.times(2, 2, 1), Programs.branch(0, 2), Programs.end(0));
        checks.due("8: a loop that keeps an int", kept.known(2, 2), 0);
        checks.due("8: a loop that keeps an int", kept.known(4, 2), 0);
        BlockCode counted = Programs.sealed(
                Programs.set(1, 1), Programs.set(2, 0),
                Programs.plus(2, 2, 1), Programs.branch(0, 2), Programs.end(0));
        checks.due("8: a loop that changes an int", counted.known(2, 2), ANY);
        checks.due("8: a loop that changes an int", counted.known(3, 2), ANY);
        checks.due("8: beside it", counted.known(2, 1), 1);
        BlockCode first = Programs.sealed(Programs.set(0, 3), Programs.go(0));
        checks.due("8: before instruction 0 all is any", first.known(0, 0), ANY);
        checks.due("8: behind it", first.known(1, 0), 3);
        BlockCode chain = Programs.sealed(
                Programs.set(0, 1), Programs.set(1, 1), Programs.set(2, 1), Programs.set(3, 1),
                Programs.copy(0, 1), Programs.copy(1, 2), Programs.copy(2, 3), Programs.copy(3, 4),
                Programs.branch(4, 4), Programs.end(0));
        for (int r = 0; r < 5; r++) {
            checks.due("8: any comes round a loop to " + r, chain.known(4, r), ANY);
        }
    }

    private static void knownBehindDivisions() {
        BlockCode zero = Programs.sealed(Programs.set(0, 0), Programs.divided(1, 2, 0),
                Programs.nothing(), Programs.end(0));
        checks.due("8: the 6 itself is reached", zero.known(1, 0), 0);
        checks.due("8: nothing flows from a 6 by the int 0", zero.known(2, 0), NOT_REACHED);
        checks.due("8: nor farther", zero.known(3, 4), NOT_REACHED);
        BlockCode other = Programs.sealed(Programs.set(0, 3), Programs.divided(1, 2, 0), Programs.end(0));
        checks.due("8: a 6 of any by an int", other.known(2, 1), ANY);
        BlockCode around = Programs.sealed(
                Programs.set(0, 0), Programs.branch(1, 3),
                Programs.divided(2, 1, 0),
                Programs.end(0));
        checks.due("8: what flows there from elsewhere", around.known(3, 0), 0);
        BlockCode unsure = Programs.sealed(
                Programs.set(0, 0), Programs.divided(1, 2, 0), Programs.set(0, 1), Programs.go(1));
        checks.due("8: no way round makes the 0 any", unsure.known(1, 0), 0);
        checks.due("8: so nothing behind is reached", unsure.known(3, 0), NOT_REACHED);
    }

    private static void knownBehindBranches() {
        BlockCode taken = Programs.sealed(Programs.set(0, -1), Programs.branch(0, 3),
                Programs.set(0, 5), Programs.end(0));
        checks.due("8: a 9 of an int other than 0 leads to b", taken.known(3, 0), -1);
        checks.due("8: and not on", taken.known(2, 0), NOT_REACHED);
        BlockCode passed = Programs.sealed(Programs.set(0, 0), Programs.branch(0, 3),
                Programs.go(4), Programs.set(0, 5), Programs.end(0));
        checks.due("8: a 9 of 0 leads on", passed.known(2, 0), 0);
        checks.due("8: and not to b", passed.known(3, 0), NOT_REACHED);
        checks.due("8: behind it", passed.known(4, 0), 0);
        BlockCode both = Programs.sealed(Programs.branch(0, 2), Programs.end(0), Programs.end(0));
        checks.due("8: a 9 of any leads on", both.known(1, 0), ANY);
        checks.due("8: and to b", both.known(2, 0), ANY);
        BlockCode late = Programs.sealed(
                Programs.set(0, 0), Programs.branch(0, 4),
                Programs.branch(1, 5), Programs.end(0),
                Programs.end(1),
                Programs.copy(0, 2), Programs.go(1));
        checks.due("8: a 9 whose register turns out any", late.known(4, 0), ANY);
        BlockCode ended = Programs.sealed(Programs.end(0), Programs.end(0));
        checks.due("8: a 10 leads nowhere", ended.known(1, 0), NOT_REACHED);
        BlockCode jumped = Programs.sealed(Programs.go(2), Programs.end(0), Programs.end(0));
        checks.due("8: an 8 leads to a", jumped.known(2, 0), ANY);
        checks.due("8: an 8 does not lead on", jumped.known(1, 0), NOT_REACHED);
    }

    private static void neededRefuses() {
        BlockCode code = Programs.added(Programs.end(7));
        checks.due("9: not sealed", code.needed(0), -9);
        code.seal();
        checks.due("9: sealed", code.needed(0), 7);
        for (int wrong : new int[] {-1, 1, 20, MIN, MAX}) {
            checks.due("9: instruction " + wrong, code.needed(wrong), -9);
        }
    }

    private static void neededOfEachOp() {
        checks.due("9: 0", neededBefore(Programs.nothing(), 9), 9);
        checks.due("9: 1", neededBefore(Programs.set(0, 4), 9), 8);
        checks.due("9: the int of a 1 is no operand", neededBefore(Programs.set(0, 2), 1), 0);
        checks.due("9: 2", neededBefore(Programs.copy(0, 4), 9), 24);
        checks.due("9: 2 onto itself", neededBefore(Programs.copy(0, 0), 1), 1);
        for (int op = 3; op <= 7; op++) {
            checks.due("9: " + op, neededBefore(new int[] {op, 0, 1, 4}, 9), 26);
            checks.due("9: an operand that is made too", neededBefore(new int[] {op, 1, 1, 2}, 2), 6);
            checks.due("9: what it makes is not needed", neededBefore(new int[] {op, 0, 1, 2}, 0), 6);
        }
        checks.due("9: 8", neededBefore(Programs.go(1), 9), 9);
        checks.due("9: 9", neededBefore(Programs.branch(2, 1), 9), 13);
        checks.due("9: all", neededBefore(Programs.nothing(), 31), 31);
    }

    private static int neededBefore(int[] row, int set) {
        return Programs.sealed(row, Programs.end(set)).needed(0);
    }

    private static void neededAlongPaths() {
        BlockCode fork = Programs.sealed(Programs.branch(0, 2), Programs.end(2), Programs.end(4));
        checks.due("9: both ways of a 9", fork.needed(0), 7);
        BlockCode settled = Programs.sealed(Programs.set(0, 1), Programs.branch(0, 3),
                Programs.end(2), Programs.end(4));
        checks.due("9: both ways though the facts know one", settled.needed(0), 6);
        BlockCode skipped = Programs.sealed(Programs.go(2), Programs.end(1), Programs.end(2));
        checks.due("9: an 8 goes to a alone", skipped.needed(0), 2);
        checks.due("9: a 10 goes nowhere", skipped.needed(1), 1);
        BlockCode loop = Programs.sealed(
                Programs.plus(1, 1, 2), Programs.minus(3, 3, 4), Programs.branch(3, 0), Programs.end(2));
        checks.due("9: round a loop", loop.needed(0), 30);
        checks.due("9: at its end", loop.needed(2), 30);
        checks.due("9: behind it", loop.needed(3), 2);
        BlockCode endless = Programs.sealed(Programs.set(0, 1), Programs.copy(1, 0), Programs.go(0));
        checks.due("9: the least sets of an endless loop", endless.needed(0), 0);
        checks.due("9: the least sets of an endless loop", endless.needed(1), 1);
        checks.due("9: the least sets of an endless loop", endless.needed(2), 0);
        BlockCode idle = Programs.sealed(Programs.nothing(), Programs.go(0));
        checks.due("9: nothing is needed where nothing is read", idle.needed(0), 0);
        BlockCode chain = Programs.sealed(
                Programs.copy(0, 1), Programs.copy(1, 2), Programs.copy(2, 3), Programs.copy(3, 4),
                Programs.branch(4, 0), Programs.end(1));
        checks.due("9: needs come round a loop", chain.needed(0), 30);
        checks.due("9: needs come round a loop", chain.needed(4), 31);
    }

    private static void factsAfterCommit() {
        BlockCode code = Programs.sealed(Programs.set(0, 2), Programs.set(1, 3),
                Programs.plus(0, 0, 1), Programs.end(1));
        code.poke(0, 1, 0, 5, 0);
        checks.due("8: a changed result does not count", code.known(1, 0), 2);
        checks.due("9: a changed result does not count", code.needed(2), 3);
        code.poke(0, 0, 0, 0, 0);
        code.poke(2, 1, 0, 5, 0);
        checks.due("15: compare", code.compare(), 0);
        checks.due("15: commit", code.commit(), true);
        checks.due("8: facts of the new source", code.known(1, 0), ANY);
        checks.due("8: facts of the new source", code.known(3, 0), 5);
        checks.due("9: needs of the new source", code.needed(2), 0);
    }
}
