/** The edges that the sentences under "Terms" name, each sentence in a test of its own. */
public final class EdgeTermsTest {
    private static final long ANY = 4294967296L;
    private static final long NOT_REACHED = 4294967297L;
    private static final int MIN = Integer.MIN_VALUE;
    private static final int MAX = Integer.MAX_VALUE;
    private static final Checks checks = new Checks();

    public static void main(String[] args) {
        atMostTwentyInstructions();
        registersAreInts();
        sumsWrap();
        differencesWrap();
        productsWrap();
        quotientsAreRoundedTowardsZero();
        leastIntByMinusOne();
        brokenOffByZero();
        lessThan();
        notZero();
        endTellsItsSet();
        goesOnAtTheNext();
        numbersNotSaid();
        form();
        canBeSealedWithAnInstruction();
        canBeSealedByItsNames();
        canBeSealedByItsLastOp();
        leaderZero();
        leadersThatAreNamed();
        leadersBehind();
        blocksEndBeforeTheNextLeader();
        factsBeforeInstructionZero();
        factsOfInts();
        factsOfOneOperand();
        factsBehindDivisionByZero();
        factsBehindBranches();
        factsBehindTheEnd();
        factsJoin();
        factsAreTheLeast();
        neededOfEndSets();
        neededWithoutWhatIsMade();
        neededIsTheLeast();
        checks.end("EdgeTermsTest");
    }

    private static void atMostTwentyInstructions() {
        checks.sentence("A PROGRAM has INSTRUCTIONS 0, 1, .., at most 20");
        for (int length : new int[] {1, 2, 19, 20}) {
            BlockCode code = Programs.sealed(Programs.filled(length, Programs.end(1)));
            checks.due("size of " + length, code.size(), length);
            checks.due("the last of " + length, code.source(length - 1, 0), 10);
            checks.due("behind the last of " + length, code.source(length, 0), -9);
            checks.due("run of " + length, code.runSource(20), 0);
            checks.due("steps of " + length, code.steps(), length);
        }
        BlockCode full = Programs.added(Programs.filled(20, Programs.end(1)));
        checks.due("the 21st", full.add(10, 0, 0, 0), -2);
    }

    private static void registersAreInts() {
        checks.sentence("REGISTERS are 0 .. 4, ints");
        BlockCode code = Programs.sealed(Programs.set(0, MIN), Programs.set(1, MAX),
                Programs.copy(3, 0), Programs.copy(4, 1), Programs.end(31));
        checks.due("input of the greatest int", code.input(2, MAX), true);
        checks.due("run", code.runSource(5), 0);
        int[] want = {MIN, MAX, MAX, MIN, MAX};
        for (int r = 0; r <= 4; r++) {
            checks.due("register " + r, code.told(r), want[r]);
        }
        checks.due("register -1", code.told(-1), 0);
        checks.due("register 5", code.told(5), 0);
    }

    /** Runs, facts, constants and comparisons all make this of the two ints. */
    private static void dueOfInts(int op, int x, int y, int want) {
        String what = x + " op " + op + " " + y;
        BlockCode open = Programs.sealed(new int[] {op, 2, 0, 1}, Programs.end(4));
        open.input(0, x);
        open.input(1, y);
        checks.due(what + ": runSource", open.runSource(2), 0);
        checks.due(what + ": told of the source", open.told(2), want);
        checks.due(what + ": runResult", open.runResult(2), 0);
        checks.due(what + ": told of the result", open.told(2), want);
        BlockCode known = Programs.sealed(Programs.set(0, x), Programs.set(1, y),
                new int[] {op, 2, 0, 1}, Programs.end(4));
        checks.due(what + ": known", known.known(3, 2), want);
        checks.due(what + ": constants", known.constants(), 1);
        checks.dueResult(what + ": constants", known, 2, 1, 2, want, 0);
        checks.due(what + ": compare", known.compare(), 0);
        known.poke(2, 1, 2, want + 1, 0);
        checks.due(what + ": compare with another int", known.compare(), 1);
    }

    private static void sumsWrap() {
        checks.sentence("Sums .. wrap");
        dueOfInts(3, MAX, 0, MAX);
        dueOfInts(3, MAX, 1, MIN);
        dueOfInts(3, MAX, MAX, -2);
        dueOfInts(3, MIN, 0, MIN);
        dueOfInts(3, MIN, -1, MAX);
        dueOfInts(3, MIN, MIN, 0);
        dueOfInts(3, MIN, MAX, -1);
    }

    private static void differencesWrap() {
        checks.sentence(".. differences .. wrap");
        dueOfInts(4, MIN, 0, MIN);
        dueOfInts(4, MIN, 1, MAX);
        dueOfInts(4, MAX, -1, MIN);
        dueOfInts(4, 0, MIN, MIN);
        dueOfInts(4, -1, MIN, MAX);
        dueOfInts(4, MIN, MAX, 1);
        dueOfInts(4, MAX, MIN, -1);
    }

    private static void productsWrap() {
        checks.sentence(".. and products wrap");
        dueOfInts(5, 46340, 46340, 2147395600);
        dueOfInts(5, 46341, 46341, -2147479015);
        dueOfInts(5, 65536, 32768, MIN);
        dueOfInts(5, 65536, 65536, 0);
        dueOfInts(5, MAX, MAX, 1);
        dueOfInts(5, MAX, 2, -2);
        dueOfInts(5, MIN, 1, MIN);
        dueOfInts(5, MIN, -1, MIN);
        dueOfInts(5, MIN, 2, 0);
        dueOfInts(5, MIN, MIN, 0);
    }

    private static void quotientsAreRoundedTowardsZero() {
        checks.sentence("6 .. divided by register b, rounded towards 0");
        dueOfInts(6, 7, 2, 3);
        dueOfInts(6, -7, 2, -3);
        dueOfInts(6, 7, -2, -3);
        dueOfInts(6, -7, -2, 3);
        dueOfInts(6, 1, 2, 0);
        dueOfInts(6, -1, 2, 0);
        dueOfInts(6, 0, -5, 0);
        dueOfInts(6, MAX, MIN, 0);
        dueOfInts(6, MIN, MAX, -1);
        dueOfInts(6, MIN, MIN, 1);
    }

    private static void leastIntByMinusOne() {
        checks.sentence("the least int divided by -1 is the least int");
        dueOfInts(6, MIN, -1, MIN);
        dueOfInts(6, MIN + 1, -1, MAX);
        dueOfInts(6, MIN, 1, MIN);
        dueOfInts(6, MIN, -2, 1073741824);
        dueOfInts(6, MAX, -1, MIN + 1);
    }

    private static void brokenOffByZero() {
        checks.sentence("BROKEN OFF if that is 0");
        BlockCode code = Programs.sealed(Programs.divided(2, 0, 1), Programs.end(7));
        for (int dividend : new int[] {MIN, -1, 0, 1, MAX}) {
            code.input(0, dividend);
            for (int divisor : new int[] {MIN, -1, 0, 1, MAX}) {
                code.input(1, divisor);
                String what = dividend + " by " + divisor;
                checks.due(what + ": runSource", code.runSource(2), divisor == 0 ? 1 : 0);
                checks.due(what + ": runResult", code.runResult(2), divisor == 0 ? 1 : 0);
                checks.due(what + ": told", code.told(0), divisor == 0 ? 0 : dividend);
            }
        }
    }

    private static void lessThan() {
        checks.sentence("7 .. 1 if register a is less than register b, else 0");
        dueOfInts(7, 3, 4, 1);
        dueOfInts(7, 4, 4, 0);
        dueOfInts(7, 5, 4, 0);
        dueOfInts(7, -1, 0, 1);
        dueOfInts(7, 0, -1, 0);
        dueOfInts(7, MIN, MAX, 1);
        dueOfInts(7, MAX, MIN, 0);
        dueOfInts(7, MIN, MIN, 0);
        dueOfInts(7, MAX - 1, MAX, 1);
        dueOfInts(7, MIN, MIN + 1, 1);
    }

    private static void notZero() {
        checks.sentence("9 if register a is not 0 on at instruction b");
        BlockCode code = Programs.sealed(Programs.branch(4, 3), Programs.set(0, 1), Programs.end(1),
                Programs.set(0, 2), Programs.end(1));
        for (int test : new int[] {MIN, -1, 0, 1, MAX}) {
            code.input(4, test);
            checks.due("run", code.runSource(9), 0);
            checks.due("a 9 of " + test, code.told(0), test == 0 ? 1 : 2);
        }
    }

    private static void endTellsItsSet() {
        checks.sentence("10 end: the registers in the set a (bit r for register r) are told");
        for (int set : new int[] {0, 1, 15, 16, 30, 31}) {
            BlockCode code = Programs.sealed(Programs.end(set));
            for (int r = 0; r <= 4; r++) {
                code.input(r, -1 - r);
            }
            checks.due("run", code.runSource(1), 0);
            for (int r = 0; r <= 4; r++) {
                int want = Integer.toBinaryString(32 + set).charAt(5 - r) == '1' ? -1 - r : 0;
                checks.due("register " + r + " of the set " + set, code.told(r), want);
            }
        }
    }

    private static void goesOnAtTheNext() {
        checks.sentence("But where another place is said it goes on at the next instruction");
        BlockCode code = Programs.sealed(Programs.filled(20, Programs.go(18), Programs.go(19)));
        checks.due("from 0 to 19 to 18 to 19", code.runSource(4), 2);
        BlockCode steps = Programs.sealed(Programs.go(2), Programs.end(1), Programs.set(0, 8), Programs.go(1));
        checks.due("back to an instruction before", steps.runSource(4), 0);
        checks.due("back to an instruction before", steps.told(0), 8);
        BlockCode itself = Programs.sealed(Programs.go(0));
        checks.due("an 8 to itself", itself.runSource(1000), 2);
        BlockCode branch = Programs.sealed(Programs.branch(0, 0), Programs.end(0));
        checks.due("a 9 to itself goes on", branch.runSource(2), 0);
        branch.input(0, 1);
        checks.due("a 9 to itself stays", branch.runSource(1000), 2);
    }

    private static void numbersNotSaid() {
        checks.sentence("d, a, b are 0 where they are not said");
        int[][] given = {{0, MIN, MAX, -1}, {1, 0, 0, MIN}, {2, 0, 0, MAX}, {8, MIN, 0, MAX},
            {9, MAX, 0, 0}, {10, -1, 0, 20}};
        for (int[] row : given) {
            BlockCode code = Programs.sealed(row, Programs.end(0));
            checks.dueSource(Forms.written(row), code, 0, row[0], 0, 0, 0);
            checks.dueResult(Forms.written(row), code, 0, row[0], 0, 0, 0);
        }
    }

    private static void form() {
        checks.sentence("FORM: d in 1 to 7, a in 2 to 7 and 9, b in 3 to 7 are registers, a in 8 and b in 9"
                + " are 0 .. 19, a in 10 is 0 .. 31");
        for (int[] row : Forms.taken()) {
            BlockCode code = new BlockCode();
            checks.due("add" + Forms.written(row), code.add(row[0], row[1], row[2], row[3]), 0);
            checks.dueSource("add" + Forms.written(row), code, 0, Forms.kept(row));
        }
        for (int[] row : Forms.refused()) {
            BlockCode code = new BlockCode();
            checks.due("add" + Forms.written(row), code.add(row[0], row[1], row[2], row[3]), -1);
            checks.due("size after add" + Forms.written(row), code.size(), 0);
        }
    }

    private static void canBeSealedWithAnInstruction() {
        checks.sentence("It can be sealed if it has an instruction");
        checks.due("none", new BlockCode().seal(), -1);
        checks.due("one", Programs.added(Programs.end(0)).seal(), 1);
        checks.due("twenty", Programs.added(Programs.filled(20, Programs.end(0))).seal(), 1);
        BlockCode cleared = Programs.added(Programs.end(0));
        cleared.clear();
        checks.due("none any more", cleared.seal(), -1);
    }

    private static void canBeSealedByItsNames() {
        checks.sentence("each a of 8 and b of 9 is an instruction of it");
        for (int length : new int[] {2, 10, 19}) {
            for (int[] name : new int[][] {Programs.go(length), Programs.branch(0, length), Programs.go(19),
                Programs.branch(0, 19)}) {
                checks.due(Forms.written(name) + " in " + length,
                        Programs.added(Programs.filled(length, Programs.end(0), name)).seal(), -1);
            }
            checks.due("the last 8 names behind itself",
                    Programs.added(Programs.filled(length, Programs.go(length))).seal(), -1);
        }
        for (int length : new int[] {3, 10, 20}) {
            for (int[] name : new int[][] {Programs.go(length - 1), Programs.branch(0, length - 1)}) {
                checks.due(Forms.written(name) + " in " + length,
                        Programs.added(Programs.filled(length, Programs.end(0), name)).seal(), 3);
            }
            checks.due("the last 8 names itself",
                    Programs.added(Programs.filled(length, Programs.go(length - 1))).seal(), 2);
        }
        checks.due("a wrong name between right ones", Programs.added(Programs.go(0), Programs.branch(0, 4),
                Programs.go(0), Programs.end(0)).seal(), -1);
        checks.due("a wrong name that is not reached",
                Programs.added(Programs.end(0), Programs.go(3), Programs.end(0)).seal(), -1);
        checks.due("a set and an int are no names",
                Programs.added(Programs.set(0, 19), Programs.end(31)).seal(), 1);
    }

    private static void canBeSealedByItsLastOp() {
        checks.sentence("and its last op is 8 or 10");
        for (int op = 0; op <= 10; op++) {
            boolean good = op == 8 || op == 10;
            int[] last = {op, 0, 0, 0};
            checks.due("op " + op + " alone", Programs.added(last).seal(), good ? 1 : -1);
            checks.due("op " + op + " as the twentieth",
                    Programs.added(Programs.filled(20, last)).seal(), good ? 1 : -1);
            checks.due("op " + op + " behind an end", Programs.added(Programs.end(0), last).seal(),
                    good ? 2 : -1);
        }
    }

    private static void leaderZero() {
        checks.sentence("a LEADER is instruction 0");
        checks.due("alone", Programs.added(Programs.end(0)).seal(), 1);
        checks.due("named too", Programs.added(Programs.nothing(), Programs.go(0)).seal(), 1);
        checks.due("of twenty", Programs.added(Programs.filled(20, Programs.go(0))).seal(), 1);
    }

    private static void leadersThatAreNamed() {
        checks.sentence("an instruction that an 8 or 9 of the source names");
        for (int place = 0; place <= 19; place++) {
            int want = place == 0 ? 1 : 2;
            checks.due("a last 8 to " + place,
                    Programs.added(Programs.filled(20, Programs.go(place))).seal(), want);
        }
        checks.due("the same by an 8 and a 9", Programs.added(Programs.branch(0, 3), Programs.go(3),
                Programs.nothing(), Programs.nothing(), Programs.end(0)).seal(), 4);
        checks.due("a 9 to itself", Programs.added(Programs.nothing(), Programs.branch(0, 1),
                Programs.end(0)).seal(), 3);
        checks.due("a set is no name", Programs.added(Programs.nothing(), Programs.nothing(),
                Programs.end(1)).seal(), 1);
        checks.due("the register of a 9 is no name", Programs.added(Programs.nothing(), Programs.nothing(),
                Programs.branch(1, 0), Programs.end(0)).seal(), 2);
    }

    private static void leadersBehind() {
        checks.sentence("and one behind an 8, 9 or 10");
        checks.due("behind an 8", Programs.added(Programs.go(0), Programs.end(0)).seal(), 2);
        checks.due("behind a 9", Programs.added(Programs.branch(0, 0), Programs.end(0)).seal(), 2);
        checks.due("behind a 10", Programs.added(Programs.end(0), Programs.end(0)).seal(), 2);
        checks.due("behind a 7", Programs.added(Programs.less(0, 0, 0), Programs.end(0)).seal(), 1);
        checks.due("nothing is behind the last", Programs.added(Programs.go(0)).seal(), 1);
        int[][] ends = new int[20][];
        java.util.Arrays.fill(ends, Programs.end(0));
        checks.due("twenty ends", Programs.added(ends).seal(), 20);
    }

    private static void blocksEndBeforeTheNextLeader() {
        checks.sentence("A block goes from a leader to the instruction before the next one");
        for (int leader = 2; leader <= 18; leader++) {
            int[][] rows = Programs.filled(20, Programs.go(leader), Programs.plus(2, 0, 1));
            rows[leader - 1] = leader == 2 ? Programs.plus(3, 0, 1) : Programs.plus(2, 0, 1);
            rows[leader] = Programs.plus(3, 0, 1);
            BlockCode code = Programs.sealed(rows);
            checks.due("a repeat before leader " + leader + " and none at it", code.repeats(), 1);
            checks.due("the one before", code.result(leader - 1, 0), leader == 2 ? 2 : 0);
            checks.due("the leader", code.result(leader, 0), 3);
        }
    }

    private static void factsBeforeInstructionZero() {
        checks.sentence("Before instruction 0 it is reached, and all are any (.. for instruction 0 also any for all)");
        BlockCode ended = Programs.sealed(Programs.end(0));
        BlockCode looped = Programs.sealed(Programs.set(0, 1), Programs.set(1, 1), Programs.set(2, 1),
                Programs.set(3, 1), Programs.set(4, 1), Programs.go(0));
        BlockCode itself = Programs.sealed(Programs.go(0));
        for (int r = 0; r <= 4; r++) {
            ended.input(r, 7);
            checks.due("where nothing flows there", ended.known(0, r), ANY);
            checks.due("where ints flow there", looped.known(0, r), ANY);
            checks.due("at the loop's end", looped.known(5, r), 1);
            checks.due("where it flows to itself", itself.known(0, r), ANY);
        }
    }

    private static void factsOfInts() {
        checks.sentence("changed by the instruction: 1 the int; 2 what is known of a");
        for (int value : new int[] {MIN, -1, 0, 1, MAX}) {
            BlockCode code = Programs.sealed(Programs.set(0, value), Programs.copy(4, 0), Programs.copy(0, 1),
                    Programs.end(0));
            checks.due("before a 1", code.known(0, 0), ANY);
            checks.due("behind a 1 with " + value, code.known(1, 0), value);
            checks.due("behind a 2 of " + value, code.known(2, 4), value);
            checks.due("behind a 2 of any", code.known(3, 0), ANY);
            checks.due("beside it", code.known(3, 4), value);
        }
    }

    private static void factsOfOneOperand() {
        checks.sentence("3 to 7 the value if both operands are ints, else any");
        for (int op = 3; op <= 7; op++) {
            BlockCode code = Programs.sealed(Programs.set(0, 1), new int[] {op, 2, 0, 0}, new int[] {op, 3, 0, 1},
                    new int[] {op, 0, 1, 0}, new int[] {op, 4, 1, 1}, Programs.end(0));
            int[] ones = {2, 0, 1, 1, 0};
            checks.due("both operands of " + op, code.known(2, 2), ones[op - 3]);
            checks.due("only a of " + op, code.known(3, 3), ANY);
            checks.due("before only b of " + op, code.known(3, 0), 1);
            checks.due("only b of " + op, code.known(4, 0), ANY);
            checks.due("none of " + op, code.known(5, 4), ANY);
        }
        BlockCode zero = Programs.sealed(Programs.set(0, 0), Programs.times(2, 0, 1), Programs.minus(3, 1, 1),
                Programs.less(4, 1, 1), Programs.end(0));
        checks.due("0 times any", zero.known(4, 2), ANY);
        checks.due("any minus itself", zero.known(4, 3), ANY);
        checks.due("any less than itself", zero.known(4, 4), ANY);
    }

    private static void factsBehindDivisionByZero() {
        checks.sentence("nothing flows from a 6 whose divisor is the int 0");
        for (int divisor : new int[] {MIN, -1, 0, 1, MAX}) {
            BlockCode ofAny = Programs.sealed(Programs.set(1, divisor), Programs.divided(2, 0, 1),
                    Programs.end(0));
            checks.due("any by " + divisor, ofAny.known(2, 1), divisor == 0 ? NOT_REACHED : divisor);
            checks.due("any by " + divisor, ofAny.known(2, 2), divisor == 0 ? NOT_REACHED : ANY);
            checks.due("the 6 itself", ofAny.known(1, 1), divisor);
            BlockCode ofInt = Programs.sealed(Programs.set(0, 0), Programs.set(1, divisor),
                    Programs.divided(1, 0, 1), Programs.end(0));
            checks.due("0 by " + divisor, ofInt.known(3, 1), divisor == 0 ? NOT_REACHED : 0);
        }
        BlockCode open = Programs.sealed(Programs.set(0, 0), Programs.divided(2, 0, 1), Programs.end(0));
        checks.due("0 by any", open.known(2, 2), ANY);
        BlockCode byOther = Programs.sealed(Programs.set(1, 0), Programs.plus(2, 0, 1), Programs.less(3, 0, 1),
                Programs.end(0));
        checks.due("another op by 0", byOther.known(3, 1), 0);
    }

    private static void factsBehindBranches() {
        checks.sentence("9 flows to one place if its register is an int, to both else");
        for (int test : new int[] {MIN, -1, 0, 1, MAX}) {
            BlockCode code = Programs.sealed(Programs.set(4, test), Programs.branch(4, 3), Programs.end(0),
                    Programs.end(0));
            checks.due("the next of a 9 of " + test, code.known(2, 4), test == 0 ? 0 : NOT_REACHED);
            checks.due("the b of a 9 of " + test, code.known(3, 4), test == 0 ? NOT_REACHED : test);
        }
        BlockCode any = Programs.sealed(Programs.branch(4, 2), Programs.end(0), Programs.end(0));
        checks.due("the next of a 9 of any", any.known(1, 4), ANY);
        checks.due("the b of a 9 of any", any.known(2, 4), ANY);
        for (int test = 0; test <= 1; test++) {
            BlockCode same = Programs.sealed(Programs.set(4, test), Programs.branch(4, 2), Programs.end(0));
            checks.due("both are the same place, " + test, same.known(2, 4), test);
        }
    }

    private static void factsBehindTheEnd() {
        checks.sentence("10 flows nowhere");
        BlockCode code = Programs.sealed(Programs.filled(20, Programs.end(0), Programs.end(31)));
        for (int i = 1; i <= 19; i++) {
            for (int r = 0; r <= 4; r++) {
                checks.due("known(" + i + ", " + r + ")", code.known(i, r), NOT_REACHED);
            }
        }
    }

    private static void factsJoin() {
        checks.sentence("the join of all that flows there (any where two ints differ ..)");
        for (int other : new int[] {MIN, -1, 0, 1, MAX}) {
            BlockCode code = Programs.sealed(Programs.set(4, 0), Programs.branch(0, 3), Programs.set(4, other),
                    Programs.end(0));
            checks.due("0 and " + other, code.known(3, 4), other == 0 ? 0 : ANY);
        }
        BlockCode any = Programs.sealed(Programs.branch(0, 2), Programs.set(4, 5), Programs.end(0));
        checks.due("any and an int", any.known(2, 4), ANY);
        BlockCode late = Programs.sealed(Programs.set(4, 5), Programs.branch(0, 3), Programs.copy(4, 1),
                Programs.end(0));
        checks.due("an int and any", late.known(3, 4), ANY);
        BlockCode none = Programs.sealed(Programs.set(4, 5), Programs.go(3), Programs.set(4, 6),
                Programs.end(0));
        checks.due("an int and what is not reached", none.known(3, 4), 5);
        BlockCode three = Programs.sealed(Programs.set(4, 5), Programs.branch(0, 4), Programs.branch(1, 4),
                Programs.set(4, 6), Programs.end(0));
        checks.due("two that are the same and one that differs", three.known(4, 4), ANY);
    }

    private static void factsAreTheLeast() {
        checks.sentence("The facts are the least that fit: ints and not reached wherever possible");
        BlockCode loop = Programs.sealed(Programs.set(0, 0), Programs.branch(0, 3), Programs.end(0),
                Programs.set(0, 1), Programs.go(1));
        checks.due("a loop that only itself would enter", loop.known(3, 0), NOT_REACHED);
        checks.due("the 9 before it", loop.known(1, 0), 0);
        int[][] rows = Programs.filled(20, Programs.go(5), Programs.set(0, 1), Programs.set(1, 1),
                Programs.set(2, 1), Programs.set(3, 1), Programs.set(4, 1),
                Programs.times(0, 0, 1), Programs.times(1, 1, 2), Programs.times(2, 2, 3), Programs.times(3, 3, 4));
        BlockCode kept = Programs.sealed(rows);
        rows[9] = Programs.plus(4, 4, 4);
        BlockCode lost = Programs.sealed(rows);
        rows[18] = Programs.branch(4, 5);
        rows[19] = Programs.end(0);
        BlockCode left = Programs.sealed(rows);
        for (int r = 0; r <= 4; r++) {
            checks.due("a full loop that keeps ints", kept.known(19, r), 1);
            checks.due("a full loop that loses them one by one", lost.known(19, r), ANY);
            checks.due("behind such a loop", left.known(19, r), ANY);
        }
        BlockCode back = jumpsBack(Programs.set(4, 5));
        for (int i = 1; i <= 19; i++) {
            checks.due("a jump back from each to the one before", back.known(i, 4), 5);
        }
        BlockCode late = Programs.sealed(Programs.branch(4, 8), Programs.set(1, 1), Programs.branch(2, 5),
                Programs.copy(3, 1), Programs.end(8),
                Programs.branch(0, 3), Programs.set(1, 2), Programs.go(5), Programs.go(6));
        checks.due("any that comes back by a 9", late.known(3, 1), ANY);
        checks.due("and goes on from there", late.known(4, 3), ANY);
    }

    /** This row, then instruction 19, then each time the one before, to an end at 2. */
    private static BlockCode jumpsBack(int[] first) {
        int[][] rows = new int[20][];
        rows[0] = first;
        rows[1] = Programs.go(19);
        rows[2] = Programs.end(31);
        for (int i = 3; i <= 19; i++) {
            rows[i] = Programs.go(i - 1);
        }
        return Programs.sealed(rows);
    }

    private static void neededOfEndSets() {
        checks.sentence("NEEDED .. its operands (for 10 the set a)");
        for (int set = 0; set <= 31; set++) {
            BlockCode code = Programs.sealed(Programs.filled(20, Programs.end(set)));
            checks.due("before the end", code.needed(19), set);
            checks.due("before all", code.needed(0), set);
        }
    }

    private static void neededWithoutWhatIsMade() {
        checks.sentence("and what is needed before the instructions to which it may go on, without the register"
                + " that it makes");
        for (int r = 0; r <= 4; r++) {
            int all = 31;
            int rest = all - (1 << r);
            checks.due("a 1 of " + r, Programs.sealed(Programs.set(r, 1), Programs.end(all)).needed(0), rest);
            checks.due("a 2 onto itself", Programs.sealed(Programs.copy(r, r), Programs.end(all)).needed(0), all);
            for (int op = 3; op <= 7; op++) {
                int other = (r + 1) % 5;
                checks.due("op " + op, Programs.sealed(new int[] {op, r, other, other},
                        Programs.end(all)).needed(0), rest);
                checks.due("op " + op + " by itself", Programs.sealed(new int[] {op, r, other, r},
                        Programs.end(0)).needed(0), (1 << r) + (1 << other));
            }
        }
        BlockCode stop = Programs.sealed(Programs.end(1), Programs.end(30));
        checks.due("a 10 does not go on", stop.needed(0), 1);
        BlockCode jump = Programs.sealed(Programs.go(2), Programs.end(1), Programs.end(2));
        checks.due("an 8 goes on at a alone", jump.needed(0), 2);
        BlockCode fork = Programs.sealed(Programs.branch(4, 2), Programs.end(1), Programs.end(2));
        checks.due("a 9 goes on at both", fork.needed(0), 19);
    }

    private static void neededIsTheLeast() {
        checks.sentence("The least sets that fit");
        BlockCode idle = Programs.sealed(Programs.filled(20, Programs.go(0)));
        BlockCode itself = Programs.sealed(Programs.go(0));
        for (int i = 0; i <= 19; i++) {
            checks.due("an endless loop at " + i, idle.needed(i), 0);
        }
        checks.due("an 8 to itself", itself.needed(0), 0);
        BlockCode branch = Programs.sealed(Programs.branch(3, 0), Programs.end(0));
        checks.due("a 9 to itself", branch.needed(0), 8);
        BlockCode back = jumpsBack(Programs.set(4, 5));
        for (int i = 1; i <= 19; i++) {
            checks.due("a jump back from each to the one before", back.needed(i), 31);
        }
        checks.due("the first", back.needed(0), 15);
        BlockCode again = Programs.sealed(Programs.copy(0, 1), Programs.go(0));
        checks.due("an endless loop that reads", again.needed(1), 2);
        again.clear();
        Programs.addAll(again, Programs.nothing(), Programs.go(0));
        again.seal();
        checks.due("one that reads nothing behind it", again.needed(0), 0);
        checks.due("one that reads nothing behind it", again.needed(1), 0);
    }
}
