import java.util.Random;

/** Runs of calls, drawn from a fixed seed, that the program and the model answer alike. */
public final class ModelTest {
    private static final int RUNS = 30000;
    // A batch of calls may go a little beyond it, but never beyond 512.
    private static final int MOST_CALLS = 480;
    private static final int[] ODD = {-1, 5, 11, 19, 20, 31, 32, Integer.MIN_VALUE, Integer.MAX_VALUE};

    private final Checks checks;
    private final Random random;
    private final BlockCode code = new BlockCode();
    private final Model model = new Model();
    private final StringBuilder calls = new StringBuilder();
    private final int registers;
    private int made = 0;

    private ModelTest(Checks checks, long seed) {
        this.checks = checks;
        this.random = new Random(seed);
        // Few registers make chance meetings of values likely.
        this.registers = 2 + random.nextInt(4);
    }

    public static void main(String[] args) {
        Checks checks = new Checks();
        for (int run = 0; run < RUNS && checks.wrong() < 5; run++) {
            ModelTest test = new ModelTest(checks, run);
            test.run(run % 50 == 0 ? MOST_CALLS : 60);
            if (checks.wrong() != 0) {
                System.out.println("seed " + run + ":" + test.calls);
            }
        }
        checks.end("ModelTest");
    }

    private void run(int most) {
        while (made < most && checks.wrong() == 0) {
            if (model.result(0, 0) == -9) {
                write();
            } else {
                use();
            }
            if (random.nextInt(80) == 0) {
                code.clear();
                model.clear();
                note("clear()");
            }
        }
    }

    private void note(String call) {
        made++;
        calls.append(' ').append(call);
    }

    private void due(String call, Checks.Call got, Checks.Call want) {
        note(call);
        checks.due(call, answer(got), answer(want));
    }

    /** The answer, or a number beyond all answers for an IllegalStateException. */
    private static long answer(Checks.Call call) {
        try {
            return call.answer();
        } catch (IllegalStateException e) {
            return Long.MIN_VALUE;
        }
    }

    private void write() {
        int length = random.nextInt(12) == 0 ? 21 : 1 + random.nextInt(12);
        for (int i = 0; i < length - 1; i++) {
            add(instruction(Math.min(length, 20)));
        }
        add(random.nextInt(3) == 0 ? Programs.go(random.nextInt(length)) : Programs.end(random.nextInt(32)));
        due("seal()", code::seal, model::seal);
        if (model.result(0, 0) == -9 && random.nextInt(2) == 0) {
            odd();
            code.clear();
            model.clear();
            note("clear()");
        }
    }

    private void add(int[] row) {
        due("add" + written(row), () -> code.add(row[0], row[1], row[2], row[3]),
                () -> model.add(row[0], row[1], row[2], row[3]));
    }

    private static String written(int[] row) {
        return "(" + row[0] + ", " + row[1] + ", " + row[2] + ", " + row[3] + ")";
    }

    private int[] instruction(int length) {
        if (random.nextInt(40) == 0) {
            return new int[] {random.nextInt(13) - 1, odd5(), odd5(), odd5()};
        }
        int op = random.nextInt(11);
        if (op == 10 && random.nextInt(2) == 0) {
            op = 1;
        }
        return Programs.drawn(random, op, registers, length);
    }

    private int odd5() {
        return random.nextInt(3) == 0 ? ODD[random.nextInt(ODD.length)] : random.nextInt(5);
    }

    private void use() {
        int size = model.size();
        switch (random.nextInt(12)) {
            case 0:
                due("constants()", code::constants, model::constants);
                break;
            case 1:
                due("repeats()", code::repeats, model::repeats);
                break;
            case 2:
                due("unneeded()", code::unneeded, model::unneeded);
                break;
            case 3: case 4: case 5:
                poke(size);
                break;
            case 6: case 7:
                due("compare()", code::compare, model::compare);
                break;
            case 8:
                due("commit()", () -> code.commit() ? 1 : 0, () -> model.commit() ? 1 : 0);
                break;
            case 9:
                runs();
                break;
            case 10:
                look(random.nextInt(size + 2) - 1);
                break;
            default:
                odd();
        }
    }

    private void poke(int size) {
        int i = random.nextInt(size);
        int[] row = instruction(size);
        int kind = random.nextInt(4);
        if (kind == 0) {
            // A small change of what stands there keeps more blocks alike than a new instruction.
            row = new int[] {model.result(i, 0), model.result(i, 1), model.result(i, 2), model.result(i, 3)};
            row[1 + random.nextInt(3)] = random.nextInt(registers);
        } else if (kind == 1) {
            row = new int[] {model.source(i, 0), model.source(i, 1), model.source(i, 2), model.source(i, 3)};
        }
        int[] put = row;
        due("poke(" + i + ")" + written(put),
                () -> code.poke(i, put[0], put[1], put[2], put[3]) ? 1 : 0,
                () -> model.poke(i, put[0], put[1], put[2], put[3]) ? 1 : 0);
    }

    private void runs() {
        int r = random.nextInt(5);
        int v = Programs.drawnInt(random);
        int fuel = random.nextInt(8) == 0 ? 990 + random.nextInt(13) : random.nextInt(40) - 1;
        due("input(" + r + ", " + v + ")", () -> code.input(r, v) ? 1 : 0, () -> model.input(r, v) ? 1 : 0);
        due("runSource(" + fuel + ")", () -> code.runSource(fuel), () -> model.runSource(fuel));
        due("told(" + r + ")", () -> code.told(r), () -> model.told(r));
        due("steps()", code::steps, model::steps);
        due("runResult(" + fuel + ")", () -> code.runResult(fuel), () -> model.runResult(fuel));
        for (int k = -1; k <= 5; k++) {
            int register = k;
            due("told(" + k + ")", () -> code.told(register), () -> model.told(register));
        }
        due("steps()", code::steps, model::steps);
    }

    private void look(int i) {
        for (int k = 0; k < 4; k++) {
            int field = k;
            due("source(" + i + ", " + k + ")", () -> code.source(i, field), () -> model.source(i, field));
            due("result(" + i + ", " + k + ")", () -> code.result(i, field), () -> model.result(i, field));
        }
        for (int k = 0; k < 5; k++) {
            int r = k;
            due("known(" + i + ", " + k + ")", () -> code.known(i, r), () -> model.known(i, r));
        }
        due("needed(" + i + ")", () -> code.needed(i), () -> model.needed(i));
        due("size()", code::size, model::size);
    }

    private void odd() {
        int x = ODD[random.nextInt(ODD.length)];
        int y = odd5();
        due("known(" + x + ", " + y + ")", () -> code.known(x, y), () -> model.known(x, y));
        due("known(" + y + ", " + x + ")", () -> code.known(y, x), () -> model.known(y, x));
        due("needed(" + x + ")", () -> code.needed(x), () -> model.needed(x));
        due("source(" + y + ", " + x + ")", () -> code.source(y, x), () -> model.source(y, x));
        due("result(" + y + ", " + x + ")", () -> code.result(y, x), () -> model.result(y, x));
        due("input(" + x + ", 1)", () -> code.input(x, 1) ? 1 : 0, () -> model.input(x, 1) ? 1 : 0);
        due("told(" + x + ")", () -> code.told(x), () -> model.told(x));
        due("runSource(" + x + ")", () -> code.runSource(x), () -> model.runSource(x));
        due("runResult(" + x + ")", () -> code.runResult(x), () -> model.runResult(x));
        due("seal()", code::seal, model::seal);
        due("compare()", code::compare, model::compare);
        due("commit()", () -> code.commit() ? 1 : 0, () -> model.commit() ? 1 : 0);
    }
}
