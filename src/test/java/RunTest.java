/** Promises 16 to 20: input, runSource, runResult, told, steps. */
public final class RunTest {
    private static final int MIN = Integer.MIN_VALUE;
    private static final int MAX = Integer.MAX_VALUE;
    private static final Checks checks = new Checks();

    public static void main(String[] args) {
        inputBeginsRuns();
        runSourceEnds();
        runSourceBreaksOff();
        runSourceStopsByFuel();
        runSourceRefuses();
        runResultRunsTheResult();
        runResultGoesBehindTheLast();
        toldTellsTheSetAlone();
        latestRunStays();
        checks.end("RunTest");
    }

    private static void inputBeginsRuns() {
        BlockCode code = new BlockCode();
        int[] values = {MIN, -1, 0, 1, MAX};
        for (int r = 0; r < 5; r++) {
            checks.due("16: input " + r, code.input(r, values[r]), true);
        }
        for (int wrong : new int[] {-1, 5, MIN, MAX}) {
            checks.due("16: input " + wrong, code.input(wrong, 99), false);
        }
        Programs.addAll(code, Programs.end(31));
        code.seal();
        checks.due("17: run", code.runSource(1), 0);
        for (int r = 0; r < 5; r++) {
            checks.due("16: register " + r, code.told(r), values[r]);
        }
        code.input(0, 8);
        checks.due("19: a later input does not change the run", code.told(0), MIN);
        code.runSource(1);
        checks.due("16: the next run", code.told(0), 8);
        BlockCode counter = Programs.sealed(Programs.plus(0, 0, 0), Programs.end(1));
        counter.input(0, 3);
        for (int k = 0; k < 3; k++) {
            checks.due("17: run", counter.runSource(9), 0);
            checks.due("16: each run begins with the input", counter.told(0), 6);
        }
    }

    private static BlockCode factorial() {
        return Programs.sealed(
                Programs.set(1, 1), Programs.set(2, 1),
                Programs.times(1, 1, 0), Programs.minus(0, 0, 2), Programs.branch(0, 2),
                Programs.end(3));
    }

    private static void runSourceEnds() {
        BlockCode code = factorial();
        code.input(0, 5);
        checks.due("17: run", code.runSource(1000), 0);
        checks.due("19: 5 factorial", code.told(1), 120);
        checks.due("19: counted down", code.told(0), 0);
        checks.due("20: steps", code.steps(), 18);
        code.input(0, 17);
        checks.due("17: run", code.runSource(1000), 0);
        checks.due("19: 17 factorial wraps", code.told(1), -288522240);
        BlockCode ops = Programs.sealed(Programs.nothing(), Programs.copy(2, 0), Programs.less(3, 0, 1),
                Programs.less(4, 1, 0), Programs.go(6), Programs.set(2, 9), Programs.end(28));
        ops.input(0, -4);
        ops.input(1, 4);
        checks.due("17: run", ops.runSource(1000), 0);
        checks.due("19: a copy", ops.told(2), -4);
        checks.due("19: less", ops.told(3), 1);
        checks.due("19: not less", ops.told(4), 0);
        checks.due("20: steps", ops.steps(), 6);
        BlockCode copied = Programs.sealed(Programs.copy(2, 1), Programs.end(6));
        copied.input(0, 5);
        copied.input(1, 6);
        checks.due("17: run", copied.runSource(2), 0);
        checks.due("19: a copy of register 1", copied.told(2), 6);
        BlockCode division = Programs.sealed(Programs.divided(2, 0, 1), Programs.end(4));
        division.input(0, MIN);
        division.input(1, -1);
        checks.due("17: the least int by -1", division.runSource(2), 0);
        checks.due("19: the least int by -1", division.told(2), MIN);
        BlockCode negative = Programs.sealed(Programs.branch(0, 2), Programs.end(0), Programs.set(1, 1),
                Programs.end(2));
        negative.input(0, MIN);
        checks.due("17: a 9 of the least int", negative.runSource(9), 0);
        checks.due("19: a 9 of the least int", negative.told(1), 1);
    }

    private static void runSourceBreaksOff() {
        BlockCode code = Programs.sealed(Programs.set(2, 7), Programs.divided(3, 0, 1), Programs.end(31));
        checks.due("17: 0 by 0", code.runSource(9), 1);
        checks.due("20: the one broken off counts", code.steps(), 2);
        checks.due("19: nothing is told", code.told(2), 0);
        checks.due("17: broken off with its last fuel", code.runSource(2), 1);
        checks.due("20: steps", code.steps(), 2);
        checks.due("17: out of fuel before it", code.runSource(1), 2);
        checks.due("20: steps", code.steps(), 1);
        code.input(1, 1);
        checks.due("17: not by 0", code.runSource(9), 0);
        checks.due("19: told", code.told(2), 7);
        code.input(1, 0);
        checks.due("17: by 0 again", code.runSource(9), 1);
        checks.due("19: nothing is told any more", code.told(2), 0);
    }

    private static void runSourceStopsByFuel() {
        BlockCode code = Programs.sealed(Programs.set(0, 3), Programs.end(1));
        checks.due("17: no fuel", code.runSource(0), 2);
        checks.due("20: no fuel", code.steps(), 0);
        checks.due("17: too little fuel", code.runSource(1), 2);
        checks.due("20: too little fuel", code.steps(), 1);
        checks.due("19: nothing is told", code.told(0), 0);
        checks.due("17: just enough fuel", code.runSource(2), 0);
        checks.due("20: just enough fuel", code.steps(), 2);
        checks.due("17: more than enough fuel", code.runSource(3), 0);
        checks.due("20: more than enough fuel", code.steps(), 2);
        BlockCode loop = Programs.sealed(Programs.nothing(), Programs.go(0));
        checks.due("17: endless", loop.runSource(1000), 2);
        checks.due("20: endless", loop.steps(), 1000);
        checks.due("17: endless", loop.runSource(999), 2);
        checks.due("20: endless", loop.steps(), 999);
    }

    private static void runSourceRefuses() {
        BlockCode code = Programs.added(Programs.end(1));
        checks.due("17: not sealed", code.runSource(5), -1);
        checks.due("18: not sealed", code.runResult(5), -1);
        checks.due("17: not sealed, wrong fuel", code.runSource(-5), -1);
        code.seal();
        for (int fuel : new int[] {-1, 1001, MIN, MAX}) {
            checks.due("17: fuel " + fuel, code.runSource(fuel), -1);
            checks.due("18: fuel " + fuel, code.runResult(fuel), -1);
        }
        checks.due("20: refused runs do not count", code.steps(), 0);
        checks.due("17: fuel 1000", code.runSource(1000), 0);
        checks.due("18: fuel 1000", code.runResult(1000), 0);
    }

    private static void runResultRunsTheResult() {
        BlockCode code = Programs.sealed(Programs.set(0, 3), Programs.end(1));
        checks.due("18: run", code.runResult(5), 0);
        checks.due("19: told", code.told(0), 3);
        code.poke(0, 1, 0, 4, 0);
        checks.due("18: run", code.runResult(5), 0);
        checks.due("19: told of the result", code.told(0), 4);
        checks.due("17: run", code.runSource(5), 0);
        checks.due("19: told of the source", code.told(0), 3);
        code.poke(0, 6, 1, 2, 3);
        checks.due("18: broken off", code.runResult(5), 1);
        checks.due("20: steps", code.steps(), 1);
        code.poke(0, 8, 0, 0, 0);
        checks.due("18: endless", code.runResult(5), 2);
        checks.due("20: steps", code.steps(), 5);
        checks.due("18: no fuel", code.runResult(0), 2);
    }

    private static void runResultGoesBehindTheLast() {
        BlockCode code = Programs.sealed(Programs.set(0, 3), Programs.end(1));
        code.poke(1, 0, 0, 0, 0);
        checks.due("18: behind the last", code.runResult(5), 1);
        checks.due("20: steps", code.steps(), 2);
        checks.due("19: nothing is told", code.told(0), 0);
        checks.due("18: behind the last with the last fuel", code.runResult(2), 1);
        checks.due("20: steps", code.steps(), 2);
        checks.due("18: not there yet", code.runResult(1), 2);
        checks.due("18: not there yet", code.runResult(0), 2);
        code.poke(1, 9, 0, 1, 0);
        checks.due("18: a last 9 of 0", code.runResult(2), 1);
        code.poke(1, 9, 0, 0, 0);
        checks.due("18: a last 9 of another", code.runResult(2), 2);
        checks.due("20: steps", code.steps(), 2);
        int[][] rows = new int[20][];
        for (int i = 0; i < 19; i++) {
            rows[i] = Programs.nothing();
        }
        rows[19] = Programs.end(0);
        BlockCode full = Programs.sealed(rows);
        full.poke(19, 1, 4, 1, 0);
        checks.due("18: behind the twentieth", full.runResult(1000), 1);
        checks.due("20: steps", full.steps(), 20);
    }

    private static void toldTellsTheSetAlone() {
        for (int set = 0; set < 32; set++) {
            BlockCode code = Programs.sealed(Programs.end(set));
            for (int r = 0; r < 5; r++) {
                code.input(r, 10 + r);
            }
            checks.due("19: before a run", code.told(0), 0);
            code.runSource(1);
            for (int r = 0; r < 5; r++) {
                checks.due("19: register " + r + " of " + set,
                        code.told(r), (set >> r) % 2 == 1 ? 10 + r : 0);
            }
            for (int wrong : new int[] {-1, 5, 32, 33, MIN, MAX}) {
                checks.due("19: register " + wrong, code.told(wrong), 0);
            }
        }
    }

    private static void latestRunStays() {
        BlockCode code = Programs.sealed(Programs.set(0, 3), Programs.end(1));
        code.runSource(5);
        checks.due("17: refused", code.runSource(1001), -1);
        checks.due("18: refused", code.runResult(-1), -1);
        code.constants();
        code.poke(0, 0, 0, 0, 0);
        checks.due("19: the run before stays", code.told(0), 3);
        checks.due("20: the run before stays", code.steps(), 2);
        code.clear();
        checks.due("17: refused", code.runSource(5), -1);
        checks.due("19: the run before stays", code.told(0), 3);
        checks.due("20: the run before stays", code.steps(), 2);
        Programs.addAll(code, Programs.go(0));
        code.seal();
        code.runSource(0);
        checks.due("19: a run without fuel is the latest", code.told(0), 0);
        checks.due("20: a run without fuel is the latest", code.steps(), 0);
    }
}
