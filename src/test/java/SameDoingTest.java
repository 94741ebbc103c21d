import java.util.Random;

/**
 * What the promises are for: every pass makes a result that compares alike, and a result that
 * compares alike does the same as the source in every run that comes to its end.
 */
public final class SameDoingTest {
    private static final int PROGRAMS = 20000;
    private static final int REGISTERS = 4;
    private static final Checks checks = new Checks();
    private static int alikeByChance = 0;

    public static void main(String[] args) {
        Random random = new Random(20);
        for (int n = 0; n < PROGRAMS && checks.wrong() == 0; n++) {
            BlockCode code = program(random);
            for (int round = 0; round < 3; round++) {
                code.constants();
                checkPass(code, random, "10: constants");
                code.repeats();
                checkPass(code, random, "11: repeats");
                code.unneeded();
                checkPass(code, random, "12: unneeded");
            }
            pokeAndCompare(code, random);
        }
        checks.due("pokes that kept the result alike are many", alikeByChance > 500, true);
        checks.end("SameDoingTest");
    }

    private static BlockCode program(Random random) {
        BlockCode code = new BlockCode();
        int length = 1 + random.nextInt(20);
        for (int i = 0; i < length - 1; i++) {
            add(code, random, random.nextInt(10), length);
        }
        add(code, random, random.nextInt(4) == 0 ? 8 : 10, length);
        checks.due("4: seal", code.seal() > 0, true);
        return code;
    }

    private static void add(BlockCode code, Random random, int op, int length) {
        int[] row = Programs.drawn(random, op, REGISTERS, length);
        code.add(row[0], row[1], row[2], row[3]);
    }

    private static void checkPass(BlockCode code, Random random, String what) {
        checks.due(what + " compares alike", code.compare(), 0);
        checkRuns(code, random, what);
        checks.due(what + " is committed", code.commit(), true);
    }

    private static void pokeAndCompare(BlockCode code, Random random) {
        for (int k = 0; k < 12; k++) {
            int i = random.nextInt(code.size());
            int[] row = Programs.drawn(random, random.nextInt(11), REGISTERS, code.size());
            code.poke(i, row[0], row[1], row[2], row[3]);
            if (code.compare() == 0) {
                alikeByChance++;
                checkRuns(code, random, "14: poke");
            } else {
                code.poke(i, code.source(i, 0), code.source(i, 1), code.source(i, 2), code.source(i, 3));
            }
        }
    }

    private static void checkRuns(BlockCode code, Random random, String what) {
        for (int r = 0; r < 5; r++) {
            code.input(r, Programs.drawnInt(random));
        }
        int ofSource = code.runSource(1000);
        int[] told = new int[5];
        for (int r = 0; r < 5; r++) {
            told[r] = code.told(r);
        }
        int ofResult = code.runResult(1000);
        // One of them may do more instructions for the same, so a run out of fuel tells nothing.
        if (ofSource == 2 || ofResult == 2) {
            return;
        }
        checks.due(what + " runs to the same", ofResult, ofSource);
        for (int r = 0; r < 5; r++) {
            checks.due(what + " tells the same of " + r, code.told(r), told[r]);
        }
    }
}
