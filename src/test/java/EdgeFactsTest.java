/** The edges that promises 8 and 9 name, each sentence in a test of its own. */
public final class EdgeFactsTest {
    private static final long ANY = 4294967296L;
    private static final long NOT_REACHED = 4294967297L;
    private static final long NO_FACT = 4294967298L;
    private static final int MIN = Integer.MIN_VALUE;
    private static final int MAX = Integer.MAX_VALUE;
    private static final Checks checks = new Checks();

    public static void main(String[] args) {
        knownInts();
        knownAnyAndNotReached();
        knownWithoutASeal();
        knownWithoutAnInstruction();
        knownWithoutARegister();
        knownOfTheSourceAlone();
        neededSets();
        neededWithoutASeal();
        neededWithoutAnInstruction();
        neededOfTheSourceAlone();
        checks.end("EdgeFactsTest");
    }

    private static void knownInts() {
        checks.sentence("8: The int known of register r before instruction i of the sealed source");
        for (int value : new int[] {MIN, MIN + 1, -9, -1, 0, 1, MAX - 1, MAX}) {
            int[][] rows = Programs.filled(20, Programs.end(0), Programs.set(0, value), Programs.copy(1, 0),
                    Programs.copy(2, 0), Programs.copy(3, 0), Programs.copy(4, 0));
            BlockCode code = Programs.sealed(rows);
            for (int r = 0; r <= 4; r++) {
                checks.due("before the one that makes it", code.known(r, r), ANY);
                checks.due("behind the one that makes it", code.known(r + 1, r), value);
                checks.due("before the last", code.known(19, r), value);
            }
        }
    }

    private static void knownAnyAndNotReached() {
        checks.sentence("8: 4294967296 any, 4294967297 not reached");
        BlockCode code = Programs.sealed(Programs.filled(20, Programs.end(0), Programs.go(2)));
        for (int r = 0; r <= 4; r++) {
            checks.due("the first", code.known(0, r), ANY);
            checks.due("the one left out", code.known(1, r), NOT_REACHED);
            checks.due("the last", code.known(19, r), ANY);
        }
    }

    private static void knownWithoutASeal() {
        checks.sentence("8: 4294967298 if it is not sealed");
        BlockCode code = new BlockCode();
        checks.due("empty", code.known(0, 0), NO_FACT);
        code.add(1, 0, 5, 0);
        checks.due("begun", code.known(0, 0), NO_FACT);
        checks.due("a seal that is refused", code.seal(), -1);
        checks.due("is none", code.known(0, 0), NO_FACT);
        code.add(10, 0, 0, 0);
        checks.due("not yet", code.known(1, 0), NO_FACT);
        code.seal();
        checks.due("sealed", code.known(1, 0), 5);
        code.clear();
        checks.due("cleared", code.known(1, 0), NO_FACT);
        code.add(10, 0, 0, 0);
        checks.due("begun again", code.known(0, 0), NO_FACT);
    }

    private static void knownWithoutAnInstruction() {
        checks.sentence("8: or there is no such instruction");
        for (int length : new int[] {1, 2, 19, 20}) {
            BlockCode code = Programs.sealed(Programs.filled(length, Programs.end(0)));
            checks.due("the first", code.known(0, 4), ANY);
            checks.due("the last", code.known(length - 1, 4), ANY);
            for (int i : new int[] {MIN, -1, length, 20, 21, MAX}) {
                checks.due("instruction " + i + " of " + length, code.known(i, 0), NO_FACT);
                checks.due("instruction " + i + " of " + length, code.known(i, 4), NO_FACT);
            }
        }
    }

    private static void knownWithoutARegister() {
        checks.sentence("8: or register");
        BlockCode code = Programs.sealed(Programs.end(0), Programs.end(0));
        checks.due("register 0", code.known(0, 0), ANY);
        checks.due("register 4", code.known(0, 4), ANY);
        for (int r : new int[] {MIN, -1, 5, 6, MAX}) {
            checks.due("register " + r, code.known(0, r), NO_FACT);
            checks.due("register " + r + " where it is not reached", code.known(1, r), NO_FACT);
            checks.due("register " + r + " of no instruction", code.known(2, r), NO_FACT);
        }
    }

    private static void knownOfTheSourceAlone() {
        checks.sentence("8: of the sealed source (not of the result, and of the new source behind a commit)");
        BlockCode code = Programs.sealed(Programs.set(0, 1), Programs.set(0, 2), Programs.end(1));
        code.poke(0, 1, 0, 7, 0);
        checks.due("poked", code.known(1, 0), 1);
        checks.due("compare", code.compare(), 0);
        checks.due("compared", code.known(1, 0), 1);
        checks.due("commit", code.commit(), true);
        checks.due("committed", code.known(1, 0), 7);
    }

    private static void neededSets() {
        checks.sentence("9: The set of registers needed before instruction i of the sealed source");
        for (int set : new int[] {0, 1, 16, 31}) {
            BlockCode code = Programs.sealed(Programs.filled(20, Programs.end(set)));
            for (int i = 0; i <= 19; i++) {
                checks.due("the set " + set + " before " + i, code.needed(i), set);
            }
        }
        BlockCode dead = Programs.sealed(Programs.end(0), Programs.end(31));
        checks.due("before one that is not reached", dead.needed(1), 31);
    }

    private static void neededWithoutASeal() {
        checks.sentence("9: -9 if it is not sealed");
        BlockCode code = new BlockCode();
        checks.due("empty", code.needed(0), -9);
        code.add(2, 0, 1, 0);
        checks.due("a seal that is refused", code.seal(), -1);
        checks.due("is none", code.needed(0), -9);
        code.add(10, 0, 1, 0);
        checks.due("not yet", code.needed(0), -9);
        code.seal();
        checks.due("sealed", code.needed(0), 2);
        code.clear();
        checks.due("cleared", code.needed(0), -9);
        code.add(10, 0, 1, 0);
        checks.due("begun again", code.needed(0), -9);
    }

    private static void neededWithoutAnInstruction() {
        checks.sentence("9: or there is none");
        for (int length : new int[] {1, 2, 19, 20}) {
            BlockCode code = Programs.sealed(Programs.filled(length, Programs.end(31)));
            checks.due("the first", code.needed(0), 31);
            checks.due("the last", code.needed(length - 1), 31);
            for (int i : new int[] {MIN, -1, length, 20, 21, MAX}) {
                checks.due("instruction " + i + " of " + length, code.needed(i), -9);
            }
        }
    }

    private static void neededOfTheSourceAlone() {
        checks.sentence("9: of the sealed source (not of the result, and of the new source behind a commit)");
        BlockCode code = Programs.sealed(Programs.copy(0, 1), Programs.set(0, 2), Programs.end(1));
        code.poke(0, 2, 0, 4, 0);
        checks.due("poked", code.needed(0), 2);
        checks.due("compare", code.compare(), 0);
        checks.due("compared", code.needed(0), 2);
        checks.due("commit", code.commit(), true);
        checks.due("committed", code.needed(0), 16);
    }
}
