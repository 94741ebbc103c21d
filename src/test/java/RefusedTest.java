import java.util.ArrayList;
import java.util.LinkedHashMap;
import java.util.List;
import java.util.Map;
import java.util.function.Supplier;

/**
 * A call that throws or is refused changes nothing: of two objects with the same past, one of which
 * got the refused call too, all that is asked of them afterwards is answered alike.
 */
public final class RefusedTest {
    private static final long THROWS = Long.MIN_VALUE;
    private static final int MIN = Integer.MIN_VALUE;
    private static final int MAX = Integer.MAX_VALUE;
    private static final Checks checks = new Checks();

    /** A call that is refused, with the answer that is due, THROWS for IllegalStateException. */
    private record Refused(String name, long due, Calls call) {
    }

    private interface Calls {
        long answer(BlockCode code);
    }

    private interface Asking {
        void ask(BlockCode code, List<Long> answers);
    }

    public static void main(String[] args) {
        Map<String, Asking> askings = askings();
        unsealed().forEach((name, past) -> checkAll(name, past, askings, refusedWithoutSeal(past.get())));
        sealed().forEach((name, past) -> checkAll(name, past, askings, refusedBehindSeal(past.get())));
        commitsThatAreRefused(askings);
        checks.end("RefusedTest");
    }

    private static void checkAll(String name, Supplier<BlockCode> past, Map<String, Asking> askings,
            List<Refused> refused) {
        for (Map.Entry<String, Asking> asking : askings.entrySet()) {
            List<Long> want = asked(past.get(), asking.getValue());
            for (Refused one : refused) {
                checks.sentence(name + ", " + one.name());
                BlockCode code = past.get();
                checks.due("the refused call", answered(() -> one.call().answer(code)), one.due());
                dueAlike(asking.getKey(), asked(code, asking.getValue()), want);
            }
        }
    }

    private static List<Long> asked(BlockCode code, Asking asking) {
        List<Long> answers = new ArrayList<>();
        asking.ask(code, answers);
        return answers;
    }

    private static void dueAlike(String what, List<Long> got, List<Long> want) {
        checks.due(what + ": how many answers", got.size(), want.size());
        for (int k = 0; k < Math.min(got.size(), want.size()); k++) {
            checks.due(what + ": answer " + k, got.get(k), want.get(k));
        }
    }

    private static long answered(Checks.Call call) {
        try {
            return call.answer();
        } catch (IllegalStateException e) {
            return THROWS;
        }
    }

    private static Map<String, Supplier<BlockCode>> unsealed() {
        Map<String, Supplier<BlockCode>> pasts = new LinkedHashMap<>();
        pasts.put("new", BlockCode::new);
        pasts.put("begun", () -> withInputs(Programs.added(Programs.set(0, 3), Programs.branch(0, 3))));
        pasts.put("could be sealed", () -> withInputs(Programs.added(Programs.set(0, 3), Programs.end(3))));
        pasts.put("nineteen", () -> withInputs(Programs.added(Programs.filled(19, Programs.end(31)))));
        pasts.put("full", () -> withInputs(Programs.added(Programs.filled(20, Programs.end(31)))));
        pasts.put("full and cannot be sealed",
                () -> withInputs(Programs.added(Programs.filled(20, Programs.set(4, 1)))));
        pasts.put("cleared", () -> {
            BlockCode code = ran();
            code.clear();
            return code;
        });
        pasts.put("cleared and begun again", () -> {
            BlockCode code = ran();
            code.compare();
            code.clear();
            Programs.addAll(code, Programs.plus(1, 2, 3), Programs.go(0));
            return code;
        });
        return pasts;
    }

    private static Map<String, Supplier<BlockCode>> sealed() {
        Map<String, Supplier<BlockCode>> pasts = new LinkedHashMap<>();
        pasts.put("sealed", RefusedTest::branching);
        pasts.put("one instruction", () -> withInputs(Programs.sealed(Programs.end(31))));
        pasts.put("full", () -> withInputs(Programs.sealed(Programs.filled(20, Programs.go(3),
                Programs.set(0, 1), Programs.plus(1, 0, 2), Programs.plus(3, 0, 2), Programs.divided(4, 1, 3)))));
        pasts.put("compared", () -> {
            BlockCode code = branching();
            code.compare();
            return code;
        });
        pasts.put("constants, compared", () -> {
            BlockCode code = branching();
            code.constants();
            code.compare();
            return code;
        });
        pasts.put("poked, not alike", () -> {
            BlockCode code = branching();
            code.poke(0, 1, 0, 9, 0);
            code.compare();
            return code;
        });
        pasts.put("ran", RefusedTest::ran);
        pasts.put("ran to a 6 by 0", () -> {
            BlockCode code = ran();
            code.poke(0, 6, 0, 0, 4);
            code.input(4, 0);
            code.runResult(1000);
            return code;
        });
        pasts.put("committed", () -> {
            BlockCode code = branching();
            code.unneeded();
            code.compare();
            code.commit();
            return code;
        });
        return pasts;
    }

    private static BlockCode withInputs(BlockCode code) {
        int[] values = {MIN, -1, 6, 2, MAX};
        for (int r = 0; r <= 4; r++) {
            code.input(r, values[r]);
        }
        return code;
    }

    private static BlockCode branching() {
        return withInputs(Programs.sealed(Programs.set(0, 3), Programs.copy(1, 0), Programs.plus(2, 2, 0),
                Programs.plus(3, 2, 0), Programs.branch(3, 7), Programs.set(4, 5), Programs.end(31),
                Programs.divided(4, 2, 3), Programs.branch(4, 0), Programs.end(30)));
    }

    private static BlockCode ran() {
        BlockCode code = branching();
        code.runSource(1000);
        return code;
    }

    private static void put(List<Refused> list, String name, long due, Calls call) {
        list.add(new Refused(name, due, call));
    }

    private static List<Refused> refusedWithoutSeal(BlockCode past) {
        List<Refused> list = refusedAlways(past);
        for (int[] row : Forms.refused()) {
            put(list, "add" + Forms.written(row), -1, code -> code.add(row[0], row[1], row[2], row[3]));
        }
        if (past.size() == 20) {
            for (int[] row : Forms.taken()) {
                put(list, "add" + Forms.written(row), -2, code -> code.add(row[0], row[1], row[2], row[3]));
            }
        }
        if (past.seal() < 0) {
            put(list, "seal()", -1, BlockCode::seal);
        }
        put(list, "constants()", THROWS, BlockCode::constants);
        put(list, "repeats()", THROWS, BlockCode::repeats);
        put(list, "unneeded()", THROWS, BlockCode::unneeded);
        put(list, "compare()", THROWS, BlockCode::compare);
        put(list, "commit()", 0, code -> code.commit() ? 1 : 0);
        put(list, "known(0, 0)", 4294967298L, code -> code.known(0, 0));
        put(list, "needed(0)", -9, code -> code.needed(0));
        put(list, "result(0, 0)", -9, code -> code.result(0, 0));
        for (int i = -1; i <= 20; i++) {
            int place = i;
            put(list, "poke of " + i, 0, code -> code.poke(place, 10, 0, 1, 0) ? 1 : 0);
        }
        for (int fuel : new int[] {0, 1, 1000}) {
            put(list, "runSource(" + fuel + ")", -1, code -> code.runSource(fuel));
            put(list, "runResult(" + fuel + ")", -1, code -> code.runResult(fuel));
        }
        return list;
    }

    private static List<Refused> refusedBehindSeal(BlockCode past) {
        List<Refused> list = refusedAlways(past);
        put(list, "seal()", THROWS, BlockCode::seal);
        put(list, "add(10, 0, 1, 0)", THROWS, code -> code.add(10, 0, 1, 0));
        put(list, "add(0, 0, 0, 0)", THROWS, code -> code.add(0, 0, 0, 0));
        int size = past.size();
        for (int[] row : Forms.refused()) {
            put(list, "add" + Forms.written(row), THROWS, code -> code.add(row[0], row[1], row[2], row[3]));
            for (int i : new int[] {0, size - 1}) {
                put(list, "poke of " + i + " " + Forms.written(row), 0,
                        code -> code.poke(i, row[0], row[1], row[2], row[3]) ? 1 : 0);
            }
        }
        for (int i : new int[] {MIN, -1, size, 20, MAX}) {
            put(list, "poke of " + i, 0, code -> code.poke(i, 10, 0, 1, 0) ? 1 : 0);
        }
        for (int name = size; name <= 20; name++) {
            int place = name;
            put(list, "poke of an 8 to " + name, 0, code -> code.poke(0, 8, 0, place, 0) ? 1 : 0);
            put(list, "poke of a 9 to " + name, 0, code -> code.poke(size - 1, 9, 0, 0, place) ? 1 : 0);
        }
        return list;
    }

    /** What is refused whether it is sealed or not. */
    private static List<Refused> refusedAlways(BlockCode past) {
        List<Refused> list = new ArrayList<>();
        for (int r : new int[] {MIN, -1, 5, MAX}) {
            put(list, "input(" + r + ", 77)", 0, code -> code.input(r, 77) ? 1 : 0);
            put(list, "known(0, " + r + ")", 4294967298L, code -> code.known(0, r));
            put(list, "told(" + r + ")", 0, code -> code.told(r));
        }
        for (int fuel : new int[] {MIN, -1, 1001, MAX}) {
            put(list, "runSource(" + fuel + ")", -1, code -> code.runSource(fuel));
            put(list, "runResult(" + fuel + ")", -1, code -> code.runResult(fuel));
        }
        for (int i : new int[] {MIN, -1, past.size(), 20, MAX}) {
            put(list, "known(" + i + ", 0)", 4294967298L, code -> code.known(i, 0));
            put(list, "needed(" + i + ")", -9, code -> code.needed(i));
            put(list, "source(" + i + ", 0)", -9, code -> code.source(i, 0));
            put(list, "result(" + i + ", 0)", -9, code -> code.result(i, 0));
        }
        return list;
    }

    private static void commitsThatAreRefused(Map<String, Asking> askings) {
        List<Refused> commit = new ArrayList<>();
        put(commit, "commit()", 0, code -> code.commit() ? 1 : 0);
        checkAll("sealed, not compared", RefusedTest::branching, askings, commit);
        checkAll("not alike", () -> {
            BlockCode code = branching();
            code.poke(0, 1, 0, 9, 0);
            code.compare();
            return code;
        }, askings, commit);
        checkAll("changed since it was compared", () -> {
            BlockCode code = branching();
            code.compare();
            code.constants();
            return code;
        }, askings, commit);
        checkAll("committed", () -> {
            BlockCode code = branching();
            code.constants();
            code.compare();
            code.commit();
            return code;
        }, askings, commit);
        checkAll("compared, but the last is no 8 or 10", () -> {
            BlockCode code = withInputs(Programs.sealed(Programs.set(0, 1), Programs.end(31), Programs.end(1)));
            code.poke(2, 9, 0, 0, 0);
            code.compare();
            return code;
        }, askings, commit);
    }

    /** All that may be asked, each asking of an object of its own, since some change it. */
    private static Map<String, Asking> askings() {
        Map<String, Asking> askings = new LinkedHashMap<>();
        askings.put("all that can be looked at", RefusedTest::look);
        askings.put("commit", RefusedTest::commitAndLook);
        askings.put("compare and commit", (code, answers) -> {
            answers.add(answered(code::compare));
            commitAndLook(code, answers);
        });
        askings.put("runs", (code, answers) -> {
            for (int fuel : new int[] {1000, 3}) {
                answers.add((long) code.runSource(fuel));
                lookAtTheRun(code, answers);
                answers.add((long) code.runResult(fuel));
                lookAtTheRun(code, answers);
            }
        });
        askings.put("add and seal", (code, answers) -> {
            answers.add(answered(() -> code.add(8, 0, 0, 0)));
            answers.add(answered(() -> code.add(10, 0, 31, 0)));
            answers.add(answered(code::seal));
            look(code, answers);
        });
        askings.put("clear and begin again", (code, answers) -> {
            code.clear();
            answers.add(answered(() -> code.add(10, 0, 31, 0)));
            answers.add(answered(code::seal));
            answers.add((long) code.runSource(1));
            look(code, answers);
        });
        askings.put("constants", (code, answers) -> {
            answers.add(answered(code::constants));
            look(code, answers);
        });
        askings.put("repeats", (code, answers) -> {
            answers.add(answered(code::repeats));
            look(code, answers);
        });
        askings.put("unneeded", (code, answers) -> {
            answers.add(answered(code::unneeded));
            look(code, answers);
        });
        return askings;
    }

    private static void look(BlockCode code, List<Long> answers) {
        answers.add((long) code.size());
        for (int i = 0; i <= 20; i++) {
            for (int field = 0; field <= 3; field++) {
                answers.add((long) code.source(i, field));
                answers.add((long) code.result(i, field));
            }
            for (int r = 0; r <= 4; r++) {
                answers.add(code.known(i, r));
            }
            answers.add((long) code.needed(i));
        }
        lookAtTheRun(code, answers);
    }

    private static void lookAtTheRun(BlockCode code, List<Long> answers) {
        for (int r = 0; r <= 4; r++) {
            answers.add((long) code.told(r));
        }
        answers.add((long) code.steps());
    }

    private static void commitAndLook(BlockCode code, List<Long> answers) {
        answers.add(code.commit() ? 1L : 0L);
        look(code, answers);
    }
}
