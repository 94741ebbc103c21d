import java.util.function.Consumer;

/** An object answers all of its 512 calls, whatever they are. */
public final class CallsTest {
    private static final int MOST = 512;
    private static final Checks checks = new Checks();

    private final BlockCode code = new BlockCode();
    private int calls = 0;

    public static void main(String[] args) {
        checks.sentence("An object is used for at most 512 calls after it has been made");
        all512(CallsTest::adds);
        all512(CallsTest::clears);
        all512(CallsTest::sealsThatAreRefused);
        all512(CallsTest::sealsThatThrow);
        all512(CallsTest::roundsOfSeal);
        all512(CallsTest::roundsOfFullSeal);
        all512(CallsTest::looks);
        all512(CallsTest::inputs);
        all512(CallsTest::passes);
        all512(CallsTest::comparisons);
        all512(CallsTest::changesAndComparisons);
        all512(CallsTest::roundsOfRepeats);
        all512(CallsTest::commits);
        all512(CallsTest::pokes);
        all512(CallsTest::runs);
        checks.end("CallsTest");
    }

    private static void all512(Consumer<CallsTest> asking) {
        CallsTest test = new CallsTest();
        asking.accept(test);
        checks.due("calls made", test.calls, MOST);
    }

    private void due(String what, Checks.Call call, long want) {
        calls++;
        checks.due("call " + calls + ", " + what, call.answer(), want);
    }

    private void dueState(String what, Checks.Call call) {
        calls++;
        checks.dueState("call " + calls + ", " + what, call);
    }

    private void clear() {
        calls++;
        code.clear();
    }

    private void write(int[]... rows) {
        for (int i = 0; i < rows.length; i++) {
            int[] row = rows[i];
            due("add", () -> code.add(row[0], row[1], row[2], row[3]), i);
        }
    }

    private void write(int blocks, int[]... rows) {
        write(rows);
        due("seal", code::seal, blocks);
    }

    /** Asks until as many calls are left. */
    private void ask(int left, Runnable asking) {
        while (calls + left < MOST) {
            asking.run();
        }
    }

    private void adds() {
        write(Programs.filled(20, Programs.end(1)));
        ask(2, () -> due("add to a full source", () -> code.add(0, 0, 0, 0), -2));
        due("seal", code::seal, 1);
        due("run", () -> code.runSource(20), 0);
    }

    private void clears() {
        ask(3, this::clear);
        due("add", () -> code.add(10, 0, 1, 0), 0);
        due("seal", code::seal, 1);
        due("compare", code::compare, 0);
    }

    private void sealsThatAreRefused() {
        write(Programs.go(1));
        ask(2, () -> due("seal", code::seal, -1));
        due("add", () -> code.add(10, 0, 1, 0), 1);
        due("seal", code::seal, 2);
    }

    private void sealsThatThrow() {
        write(1, Programs.end(1));
        ask(1, () -> dueState("seal", code::seal));
        due("size", code::size, 1);
    }

    private void roundsOfSeal() {
        ask(2, () -> {
            due("add", () -> code.add(10, 0, 1, 0), 0);
            due("seal", code::seal, 1);
            clear();
        });
        due("add", () -> code.add(8, 0, 0, 0), 0);
        due("seal", code::seal, 1);
    }

    private void roundsOfFullSeal() {
        for (int round = 0; round < 22; round++) {
            int[][] rows = Programs.filled(20, Programs.end(1), Programs.set(0, round), Programs.copy(1, 0));
            write(1, rows);
            int want = round;
            due("known", () -> code.known(19, 1), want);
            clear();
        }
        write(1, Programs.filled(5, Programs.end(1)));
    }

    private void looks() {
        write(1, Programs.filled(20, Programs.end(31), Programs.set(4, -1)));
        ask(1, () -> lookAt(calls % 20));
        due("steps", code::steps, 0);
    }

    private void lookAt(int i) {
        switch (calls / 20 % 6) {
            case 0:
                due("source", () -> code.source(i, 0), i == 0 ? 1 : i == 19 ? 10 : 0);
                break;
            case 1:
                due("result", () -> code.result(i, 0), i == 0 ? 1 : i == 19 ? 10 : 0);
                break;
            case 2:
                due("needed", () -> code.needed(i), i == 0 ? 15 : 31);
                break;
            case 3:
                due("known", () -> code.known(i, 4), i == 0 ? 4294967296L : -1);
                break;
            case 4:
                due("told", () -> code.told(4), 0);
                break;
            default:
                due("size", code::size, 20);
        }
    }

    private void inputs() {
        write(1, Programs.end(16));
        ask(2, () -> {
            int value = calls;
            due("input", () -> code.input(4, value) ? 1 : 0, 1);
        });
        due("run", () -> code.runSource(1), 0);
        due("told", () -> code.told(4), 509);
    }

    private void passes() {
        int[][] rows = Programs.filled(20, Programs.end(2), Programs.set(0, 1));
        for (int i = 1; i < 19; i++) {
            rows[i] = i % 2 == 1 ? Programs.plus(1, 0, 0) : Programs.plus(2, 3, 4);
        }
        write(1, rows);
        ask(1, () -> {
            int k = calls % 3;
            if (k == 0) {
                due("constants", code::constants, 9);
            } else if (k == 1) {
                due("repeats", code::repeats, 16);
            } else {
                due("unneeded", code::unneeded, 17);
            }
        });
        due("compare", code::compare, 0);
    }

    private void comparisons() {
        int[][] rows = new int[20][];
        for (int i = 0; i < 19; i++) {
            rows[i] = Programs.divided(i % 5, i % 5, (i + 1) % 5);
        }
        rows[19] = Programs.end(31);
        write(1, rows);
        ask(1, () -> due("compare", code::compare, 0));
        due("commit", () -> code.commit() ? 1 : 0, 1);
    }

    private void changesAndComparisons() {
        write(1, Programs.filled(19, Programs.end(0)));
        ask(2, () -> {
            int value = calls;
            due("poke", () -> code.poke(value % 18, 1, 4, value, 0) ? 1 : 0, 1);
            due("compare", code::compare, 0);
        });
        due("unneeded", code::unneeded, 0);
        due("compare", code::compare, 0);
    }

    private void roundsOfRepeats() {
        ask(8, () -> {
            int value = calls;
            write(1, Programs.set(0, value), Programs.plus(1, 0, 2), Programs.plus(3, 0, 2), Programs.end(31));
            due("repeats", code::repeats, 1);
            due("result", () -> code.result(2, 0), 2);
            clear();
        });
        write(1, Programs.plus(1, 0, 2), Programs.plus(3, 0, 2), Programs.end(31));
        due("repeats", code::repeats, 1);
        due("compare", code::compare, 0);
        due("commit", () -> code.commit() ? 1 : 0, 1);
        due("repeats", code::repeats, 0);
    }

    private void commits() {
        write(2, Programs.filled(20, Programs.go(5), Programs.set(0, 1)));
        ask(1, () -> {
            if (calls % 2 == 1) {
                due("compare", code::compare, 0);
            } else {
                due("commit", () -> code.commit() ? 1 : 0, 1);
            }
        });
        due("the last call", () -> code.commit() ? 1 : 0, 0);
    }

    private void pokes() {
        write(1, Programs.filled(20, Programs.end(31)));
        ask(1, () -> {
            int value = calls;
            due("poke", () -> code.poke(value % 19, 1, value % 5, value, 0) ? 1 : 0, 1);
        });
        due("result", () -> code.result(510 % 19, 2), 510);
    }

    private void runs() {
        write(1, Programs.filled(20, Programs.go(0)));
        ask(1, () -> {
            if (calls % 2 == 0) {
                due("runSource", () -> code.runSource(1000), 2);
            } else {
                due("runResult", () -> code.runResult(1000), 2);
            }
        });
        due("steps", code::steps, 1000);
    }
}
