/** The edges that promises 16 to 20 name, each sentence in a test of its own. */
public final class EdgeRunTest {
    private static final int MIN = Integer.MIN_VALUE;
    private static final int MAX = Integer.MAX_VALUE;
    private static final Checks checks = new Checks();

    /** Which of the two programs is run. */
    private interface Runner {
        int run(int fuel);
    }

    public static void main(String[] args) {
        inputTakesInts();
        inputRefusesRegisters();
        runBeginsWithTheInputs();
        runEnds();
        runIsBrokenOff();
        runStopsByFuel();
        runCountsTheLast();
        runWithFuelZero();
        runWithFuelBesideTheEdges();
        runWithoutASeal();
        runRefusesFuel();
        runResultLikewise();
        runResultBehindTheLast();
        toldOfTheSet();
        toldOfRegisters();
        toldWithoutAnEnd();
        toldOfTheLatest();
        stepsOfTheLatest();
        checks.end("EdgeRunTest");
    }

    private static void inputTakesInts() {
        checks.sentence("16: Register r begins a run with v: true");
        BlockCode code = Programs.sealed(Programs.end(31));
        for (int r = 0; r <= 4; r++) {
            for (int value : new int[] {MIN, -1, 0, 1, MAX}) {
                checks.due("input(" + r + ", " + value + ")", code.input(r, value), true);
                checks.due("run", code.runSource(1), 0);
                checks.due("told(" + r + ")", code.told(r), value);
            }
            checks.due("the last of them stays", code.input(r, 10 + r), true);
        }
        checks.due("run", code.runResult(1), 0);
        for (int r = 0; r <= 4; r++) {
            checks.due("each register has its own", code.told(r), 10 + r);
        }
        BlockCode early = new BlockCode();
        checks.due("before there is a source", early.input(4, 5), true);
        Programs.addAll(early, Programs.end(16));
        checks.due("before it is sealed", early.input(4, 6), true);
        early.seal();
        early.runSource(1);
        checks.due("told", early.told(4), 6);
    }

    private static void inputRefusesRegisters() {
        checks.sentence("16: false if r is not 0 .. 4");
        BlockCode code = Programs.sealed(Programs.end(31));
        for (int r : new int[] {MIN, -1, 5, 6, 31, MAX}) {
            checks.due("input(" + r + ", 9)", code.input(r, 9), false);
        }
        checks.due("run", code.runSource(1), 0);
        for (int r = 0; r <= 4; r++) {
            checks.due("register " + r + " stays", code.told(r), 0);
        }
    }

    private static void runBeginsWithTheInputs() {
        checks.sentence("17: Runs the source from instruction 0 with the inputs");
        BlockCode code = Programs.sealed(Programs.plus(0, 0, 1), Programs.branch(2, 4), Programs.set(2, 1),
                Programs.go(0), Programs.end(5));
        code.input(0, 1);
        code.input(1, 2);
        for (int k = 0; k < 3; k++) {
            checks.due("run", code.runSource(1000), 0);
            checks.due("each run begins anew", code.told(0), 5);
            checks.due("each run begins anew", code.steps(), 7);
            checks.due("run", code.runResult(1000), 0);
            checks.due("each run begins anew", code.told(0), 5);
        }
    }

    /** A loop that counts down, so that this row is the instruction that a run does as the n-th, n at least 4. */
    private static BlockCode doneAsNth(int n, int[] row) {
        int[][] even = {Programs.set(1, 1), Programs.minus(0, 0, 1), Programs.branch(0, 1), row, Programs.end(0)};
        int[][] odd = {Programs.nothing(), Programs.set(1, 1), Programs.minus(0, 0, 1), Programs.branch(0, 2),
            row, Programs.end(0)};
        BlockCode code = Programs.sealed(n % 2 == 0 ? even : odd);
        code.input(0, n % 2 == 0 ? (n - 2) / 2 : (n - 3) / 2);
        return code;
    }

    private static void dueRun(String what, BlockCode code, Runner runner, int fuel, int want, int steps) {
        checks.due(what + " with fuel " + fuel, runner.run(fuel), want);
        checks.due(what + " with fuel " + fuel + ": steps", code.steps(), steps);
    }

    private static void runEnds() {
        checks.sentence("17: 0 it came to an end");
        BlockCode one = Programs.sealed(Programs.end(0));
        dueRun("an end alone", one, one::runSource, 1, 0, 1);
        dueRun("an end alone", one, one::runSource, 1000, 0, 1);
        for (int length : new int[] {4, 5, 998, 999, 1000}) {
            BlockCode code = doneAsNth(length, Programs.end(1));
            dueRun("an end at " + length, code, code::runSource, length, 0, length);
            dueRun("an end at " + length, code, code::runSource, 1000, 0, length);
            dueRun("an end at " + length, code, code::runSource, length - 1, 2, length - 1);
        }
        BlockCode beyond = doneAsNth(1001, Programs.end(1));
        dueRun("an end at 1001", beyond, beyond::runSource, 1000, 2, 1000);
    }

    private static void runIsBrokenOff() {
        checks.sentence("17: 1 it was broken off");
        for (int length : new int[] {4, 5, 998, 999, 1000}) {
            BlockCode code = doneAsNth(length, Programs.divided(0, 1, 4));
            dueRun("broken off at " + length, code, code::runSource, length, 1, length);
            dueRun("broken off at " + length, code, code::runSource, 1000, 1, length);
            dueRun("broken off at " + length, code, code::runSource, length - 1, 2, length - 1);
        }
        BlockCode beyond = doneAsNth(1001, Programs.divided(0, 1, 4));
        dueRun("broken off at 1001", beyond, beyond::runSource, 1000, 2, 1000);
        BlockCode first = Programs.sealed(Programs.divided(0, 0, 1), Programs.end(0));
        dueRun("the first", first, first::runSource, 1, 1, 1);
        first.input(1, 1);
        dueRun("not by 0", first, first::runSource, 2, 0, 2);
    }

    private static void runStopsByFuel() {
        checks.sentence("17: 2 it did fuel instructions and none of these");
        BlockCode code = Programs.sealed(Programs.filled(20, Programs.end(0)));
        for (int fuel = 0; fuel <= 19; fuel++) {
            dueRun("twenty", code, code::runSource, fuel, 2, fuel);
        }
        dueRun("twenty", code, code::runSource, 20, 0, 20);
        dueRun("twenty", code, code::runSource, 21, 0, 20);
        BlockCode loop = Programs.sealed(Programs.go(0));
        for (int fuel : new int[] {0, 1, 2, 999, 1000}) {
            dueRun("endless", loop, loop::runSource, fuel, 2, fuel);
        }
    }

    private static void runCountsTheLast() {
        checks.sentence("17: An end and an instruction broken off count too");
        BlockCode ended = Programs.sealed(Programs.nothing(), Programs.end(0));
        dueRun("an end", ended, ended::runSource, 2, 0, 2);
        dueRun("an end", ended, ended::runSource, 1, 2, 1);
        BlockCode broken = Programs.sealed(Programs.nothing(), Programs.divided(0, 0, 0), Programs.end(0));
        dueRun("a 6 by 0", broken, broken::runSource, 3, 1, 2);
        dueRun("a 6 by 0", broken, broken::runSource, 2, 1, 2);
        dueRun("a 6 by 0", broken, broken::runSource, 1, 2, 1);
    }

    private static void runWithFuelZero() {
        checks.sentence("17: with 0 it is 2");
        BlockCode ended = Programs.sealed(Programs.end(31));
        ended.input(0, 5);
        dueRun("an end alone", ended, ended::runSource, 0, 2, 0);
        checks.due("nothing is told", ended.told(0), 0);
        BlockCode broken = Programs.sealed(Programs.divided(0, 0, 0), Programs.end(0));
        dueRun("a 6 by 0", broken, broken::runSource, 0, 2, 0);
        BlockCode behind = Programs.sealed(Programs.end(0));
        behind.poke(0, 0, 0, 0, 0);
        dueRun("a result that goes on behind its last", behind, behind::runResult, 0, 2, 0);
    }

    private static void runWithFuelBesideTheEdges() {
        checks.sentence("17: fuel 0 .. 1000 .. -1 if .. fuel is another number");
        BlockCode code = Programs.sealed(Programs.end(1));
        int[] fuels = {MIN, -1000, -1, 0, 1, 2, 999, 1000, 1001, 1002, 2000, MAX};
        int[] answers = {-1, -1, -1, 2, 0, 0, 0, 0, -1, -1, -1, -1};
        for (int k = 0; k < fuels.length; k++) {
            checks.due("runSource(" + fuels[k] + ")", code.runSource(fuels[k]), answers[k]);
            checks.due("runResult(" + fuels[k] + ")", code.runResult(fuels[k]), answers[k]);
        }
    }

    private static void runWithoutASeal() {
        checks.sentence("17: -1 if the source is not sealed");
        BlockCode code = new BlockCode();
        for (int fuel : new int[] {-1, 0, 1, 1000, 1001}) {
            checks.due("empty, runSource(" + fuel + ")", code.runSource(fuel), -1);
            checks.due("empty, runResult(" + fuel + ")", code.runResult(fuel), -1);
        }
        code.add(10, 0, 0, 0);
        checks.due("not sealed, runSource", code.runSource(1), -1);
        checks.due("not sealed, runResult", code.runResult(1), -1);
        code.seal();
        checks.due("sealed, runSource", code.runSource(1), 0);
        checks.due("sealed, runResult", code.runResult(1), 0);
        code.clear();
        checks.due("cleared, runSource", code.runSource(0), -1);
        checks.due("cleared, runResult", code.runResult(0), -1);
    }

    private static void runRefusesFuel() {
        checks.sentence("19, 20: Of the latest run that was not refused");
        BlockCode code = Programs.sealed(Programs.end(1));
        code.input(0, 5);
        checks.due("run", code.runSource(1), 0);
        code.input(0, 6);
        for (int fuel : new int[] {MIN, -1, 1001, MAX}) {
            checks.due("runSource(" + fuel + ")", code.runSource(fuel), -1);
            checks.due("runResult(" + fuel + ")", code.runResult(fuel), -1);
            checks.due("told", code.told(0), 5);
            checks.due("steps", code.steps(), 1);
        }
        code.clear();
        checks.due("not sealed", code.runSource(1), -1);
        checks.due("not sealed", code.runResult(1), -1);
        checks.due("told", code.told(0), 5);
        checks.due("steps", code.steps(), 1);
    }

    private static void runResultLikewise() {
        checks.sentence("18: Runs the result likewise");
        for (int length : new int[] {4, 5, 999, 1000}) {
            BlockCode ended = doneAsNth(length, Programs.end(1));
            dueRun("an end at " + length, ended, ended::runResult, length, 0, length);
            dueRun("an end at " + length, ended, ended::runResult, 1000, 0, length);
            dueRun("an end at " + length, ended, ended::runResult, length - 1, 2, length - 1);
            BlockCode broken = doneAsNth(length, Programs.divided(0, 1, 4));
            dueRun("broken off at " + length, broken, broken::runResult, length, 1, length);
            dueRun("broken off at " + length, broken, broken::runResult, length - 1, 2, length - 1);
        }
        BlockCode beyond = doneAsNth(1001, Programs.end(1));
        dueRun("an end at 1001", beyond, beyond::runResult, 1000, 2, 1000);
        BlockCode other = Programs.sealed(Programs.set(0, 1), Programs.end(1));
        other.poke(0, 1, 0, 2, 0);
        other.runResult(2);
        checks.due("the result's", other.told(0), 2);
        other.runSource(2);
        checks.due("the source's", other.told(0), 1);
    }

    private static void runResultBehindTheLast() {
        checks.sentence("18: 1 also if it goes on behind its last instruction (also with its last fuel)");
        for (int length : new int[] {1, 2, 19, 20}) {
            for (int[] last : new int[][] {Programs.nothing(), Programs.set(4, 1), Programs.branch(0, 0)}) {
                BlockCode code = Programs.sealed(Programs.filled(length, Programs.end(0)));
                code.poke(length - 1, last[0], last[1], last[2], last[3]);
                dueRun("too little", code, code::runResult, length - 1, 2, length - 1);
                dueRun("its last fuel", code, code::runResult, length, 1, length);
                dueRun("more", code, code::runResult, length + 1, 1, length);
                dueRun("the most", code, code::runResult, 1000, 1, length);
                checks.due("nothing is told", code.told(4), 0);
                dueRun("the source", code, code::runSource, length, 0, length);
            }
        }
        BlockCode back = Programs.sealed(Programs.nothing(), Programs.end(0));
        back.poke(1, 9, 0, 4, 0);
        back.input(4, -1);
        dueRun("a last 9 that goes back", back, back::runResult, 2, 2, 2);
        dueRun("a last 9 that goes back", back, back::runResult, 1000, 2, 1000);
        for (int length : new int[] {999, 1000}) {
            BlockCode code = doneAsNth(length, Programs.nothing());
            code.poke(code.size() - 1, 0, 0, 0, 0);
            dueRun("behind the last", code, code::runResult, 1000, length == 1000 ? 2 : 1, 1000);
        }
    }

    private static void toldOfTheSet() {
        checks.sentence("19: register r if it came to an end and r is in the set told; else 0");
        for (int r = 0; r <= 4; r++) {
            BlockCode alone = Programs.sealed(Programs.end(1 << r));
            BlockCode others = Programs.sealed(Programs.end(31 - (1 << r)));
            for (int k = 0; k <= 4; k++) {
                alone.input(k, 20 + k);
                others.input(k, 20 + k);
            }
            alone.runSource(1);
            others.runSource(1);
            for (int k = 0; k <= 4; k++) {
                checks.due("register " + k + " of " + r + " alone", alone.told(k), k == r ? 20 + k : 0);
                checks.due("register " + k + " of all but " + r, others.told(k), k == r ? 0 : 20 + k);
            }
        }
    }

    private static void toldOfRegisters() {
        checks.sentence("19: else 0 (a register that is not there)");
        BlockCode code = Programs.sealed(Programs.end(31));
        for (int r = 0; r <= 4; r++) {
            code.input(r, 7);
        }
        checks.due("run", code.runSource(1), 0);
        checks.due("register 0", code.told(0), 7);
        checks.due("register 4", code.told(4), 7);
        for (int r : new int[] {MIN, -32, -28, -1, 5, 31, 32, 36, MAX}) {
            checks.due("register " + r, code.told(r), 0);
        }
    }

    private static void toldWithoutAnEnd() {
        checks.sentence("19: if it came to an end (and 0 where it did not)");
        BlockCode code = Programs.sealed(Programs.set(0, 5), Programs.divided(1, 0, 2), Programs.end(31));
        checks.due("no run", code.told(0), 0);
        code.input(2, 1);
        checks.due("an end", code.runSource(3), 0);
        checks.due("an end", code.told(0), 5);
        checks.due("out of fuel", code.runSource(2), 2);
        checks.due("out of fuel", code.told(0), 0);
        code.runSource(3);
        code.input(2, 0);
        checks.due("broken off", code.runSource(3), 1);
        checks.due("broken off", code.told(0), 0);
        code.input(2, 1);
        code.runSource(3);
        checks.due("without fuel", code.runSource(0), 2);
        checks.due("without fuel", code.told(0), 0);
        code.runSource(3);
        code.poke(2, 0, 0, 0, 0);
        checks.due("behind the last", code.runResult(3), 1);
        checks.due("behind the last", code.told(0), 0);
    }

    private static void toldOfTheLatest() {
        checks.sentence("19: Of the latest run (what changes behind it does not count)");
        BlockCode code = Programs.sealed(Programs.set(0, 5), Programs.end(3));
        code.input(1, 6);
        checks.due("run", code.runSource(2), 0);
        code.input(1, 7);
        code.poke(0, 1, 0, 8, 0);
        code.poke(1, 10, 0, 0, 0);
        code.compare();
        code.constants();
        code.compare();
        code.commit();
        checks.due("told", code.told(0), 5);
        checks.due("told", code.told(1), 6);
        code.clear();
        checks.due("cleared", code.told(0), 5);
        checks.due("cleared", code.told(1), 6);
        Programs.addAll(code, Programs.end(2));
        code.seal();
        checks.due("sealed again", code.told(0), 5);
        checks.due("run", code.runResult(1), 0);
        checks.due("the next run", code.told(0), 0);
        checks.due("the next run", code.told(1), 7);
    }

    private static void stepsOfTheLatest() {
        checks.sentence("20: How many instructions the latest run that was not refused did");
        BlockCode code = Programs.sealed(Programs.nothing(), Programs.go(0));
        checks.due("no run", code.steps(), 0);
        dueRun("endless", code, code::runSource, 1000, 2, 1000);
        checks.due("refused", code.runSource(1001), -1);
        checks.due("refused", code.steps(), 1000);
        dueRun("endless", code, code::runResult, 1, 2, 1);
        checks.due("refused", code.runResult(-1), -1);
        checks.due("refused", code.steps(), 1);
        code.constants();
        code.compare();
        code.commit();
        code.clear();
        checks.due("cleared", code.steps(), 1);
        checks.due("not sealed", code.runSource(5), -1);
        checks.due("not sealed", code.steps(), 1);
        Programs.addAll(code, Programs.end(0));
        code.seal();
        checks.due("sealed again", code.steps(), 1);
        dueRun("without fuel", code, code::runSource, 0, 2, 0);
    }
}
