import java.util.ArrayDeque;
import java.util.ArrayList;
import java.util.Arrays;
import java.util.Deque;
import java.util.HashSet;
import java.util.LinkedHashSet;
import java.util.List;
import java.util.Objects;
import java.util.Set;
import java.util.TreeSet;

/**
 * The document told a second time, in other means than the program's: symbols are texts, needs
 * are searched path by path, facts are pushed along a queue.
 */
final class Model {
    private List<int[]> source = new ArrayList<>();
    private List<int[]> result = null;
    private boolean compared = false;
    private final int[] inputs = new int[5];
    private int[] told = new int[5];
    private int steps = 0;

    int add(int op, int d, int a, int b) {
        if (result != null) {
            throw new IllegalStateException();
        }
        int[] row = formed(op, d, a, b);
        if (row == null) {
            return -1;
        }
        if (source.size() == 20) {
            return -2;
        }
        source.add(row);
        return source.size() - 1;
    }

    void clear() {
        source = new ArrayList<>();
        result = null;
    }

    int seal() {
        if (result != null) {
            throw new IllegalStateException();
        }
        for (int[] row : source) {
            if (row[0] == 8 && row[2] >= source.size() || row[0] == 9 && row[3] >= source.size()) {
                return -1;
            }
        }
        if (!endsWell(source)) {
            return -1;
        }
        result = copied(source);
        compared = false;
        return leaders().size();
    }

    int size() {
        return source.size();
    }

    int source(int i, int field) {
        return number(source, i, field);
    }

    int result(int i, int field) {
        return result == null ? -9 : number(result, i, field);
    }

    long known(int i, int r) {
        if (result == null || i < 0 || i >= source.size() || r < 0 || r > 4) {
            return 4294967298L;
        }
        Integer[] row = facts()[i];
        if (row == null) {
            return 4294967297L;
        }
        return row[r] == null ? 4294967296L : row[r];
    }

    int needed(int i) {
        if (result == null || i < 0 || i >= source.size()) {
            return -9;
        }
        return neededIn(source, i);
    }

    int constants() {
        begin();
        Integer[][] facts = facts();
        for (int i = 0; i < source.size(); i++) {
            int[] row = source.get(i);
            if (facts[i] == null) {
                continue;
            }
            if (row[0] >= 2 && row[0] <= 7 && made(row, facts[i]) != null) {
                result.set(i, new int[] {1, row[1], made(row, facts[i]), 0});
            }
            if (row[0] == 9 && facts[i][row[2]] != null) {
                boolean jumps = facts[i][row[2]] != 0;
                result.set(i, jumps ? new int[] {8, 0, row[3], 0} : new int[4]);
            }
        }
        return differences();
    }

    int repeats() {
        begin();
        Set<Integer> leaders = leaders();
        String[] held = null;
        for (int i = 0; i < source.size(); i++) {
            if (leaders.contains(i)) {
                held = new String[] {"r0", "r1", "r2", "r3", "r4"};
            }
            int[] row = source.get(i);
            if (row[0] < 1 || row[0] > 7) {
                continue;
            }
            String value = symbol(row, held, false);
            int holder = Arrays.asList(held).indexOf(value);
            if (row[0] >= 3 && holder >= 0) {
                result.set(i, holder == row[1] ? new int[4] : new int[] {2, row[1], holder, 0});
            }
            held[row[1]] = value;
        }
        return differences();
    }

    int unneeded() {
        begin();
        for (int i = 0; i < source.size(); i++) {
            int[] row = source.get(i);
            boolean removable = row[0] >= 1 && row[0] <= 5 || row[0] == 7;
            if (removable && (neededIn(source, i + 1) & 1 << row[1]) == 0) {
                result.set(i, new int[4]);
            }
        }
        return differences();
    }

    boolean poke(int i, int op, int d, int a, int b) {
        if (result == null || i < 0 || i >= result.size()) {
            return false;
        }
        int[] row = formed(op, d, a, b);
        if (row == null || op == 8 && a >= source.size() || op == 9 && b >= source.size()) {
            return false;
        }
        result.set(i, row);
        compared = false;
        return true;
    }

    int compare() {
        if (result == null) {
            throw new IllegalStateException();
        }
        Integer[][] facts = facts();
        List<Integer> leaders = new ArrayList<>(leaders());
        for (int k = 0; k < leaders.size(); k++) {
            int from = leaders.get(k);
            int to = k + 1 < leaders.size() ? leaders.get(k + 1) : source.size();
            if (facts[from] != null && !alike(facts[from], from, to)) {
                return 1 + from;
            }
        }
        compared = true;
        return 0;
    }

    boolean commit() {
        if (result == null || !compared || !endsWell(result)) {
            return false;
        }
        source = copied(result);
        compared = false;
        return true;
    }

    boolean input(int r, int v) {
        if (r < 0 || r > 4) {
            return false;
        }
        inputs[r] = v;
        return true;
    }

    int runSource(int fuel) {
        return result == null || fuel < 0 || fuel > 1000 ? -1 : run(source, fuel);
    }

    int runResult(int fuel) {
        return result == null || fuel < 0 || fuel > 1000 ? -1 : run(result, fuel);
    }

    int told(int r) {
        return r < 0 || r > 4 ? 0 : told[r];
    }

    int steps() {
        return steps;
    }

    private static int[] formed(int op, int d, int a, int b) {
        boolean registerD = d >= 0 && d <= 4;
        boolean registerA = a >= 0 && a <= 4;
        boolean registerB = b >= 0 && b <= 4;
        switch (op) {
            case 0:
                return new int[4];
            case 1:
                return registerD ? new int[] {1, d, a, 0} : null;
            case 2:
                return registerD && registerA ? new int[] {2, d, a, 0} : null;
            case 3: case 4: case 5: case 6: case 7:
                return registerD && registerA && registerB ? new int[] {op, d, a, b} : null;
            case 8:
                return a >= 0 && a <= 19 ? new int[] {8, 0, a, 0} : null;
            case 9:
                return registerA && b >= 0 && b <= 19 ? new int[] {9, 0, a, b} : null;
            case 10:
                return a >= 0 && a <= 31 ? new int[] {10, 0, a, 0} : null;
            default:
                return null;
        }
    }

    private static List<int[]> copied(List<int[]> rows) {
        List<int[]> copy = new ArrayList<>();
        for (int[] row : rows) {
            copy.add(row.clone());
        }
        return copy;
    }

    private static boolean endsWell(List<int[]> rows) {
        if (rows.isEmpty()) {
            return false;
        }
        int op = rows.get(rows.size() - 1)[0];
        return op == 8 || op == 10;
    }

    private static int number(List<int[]> rows, int i, int field) {
        if (i < 0 || i >= rows.size()) {
            return -9;
        }
        return field < 0 || field > 3 ? 0 : rows.get(i)[field];
    }

    private void begin() {
        if (result == null) {
            throw new IllegalStateException();
        }
        result = copied(source);
        compared = false;
    }

    private int differences() {
        int count = 0;
        for (int i = 0; i < source.size(); i++) {
            count += Arrays.equals(source.get(i), result.get(i)) ? 0 : 1;
        }
        return count;
    }

    private Set<Integer> leaders() {
        Set<Integer> leaders = new TreeSet<>();
        leaders.add(0);
        for (int i = 0; i < source.size(); i++) {
            int[] row = source.get(i);
            if (row[0] == 8) {
                leaders.add(row[2]);
            }
            if (row[0] == 9) {
                leaders.add(row[3]);
            }
            if (row[0] >= 8) {
                leaders.add(i + 1);
            }
        }
        leaders.remove(source.size());
        return leaders;
    }

    private static List<Integer> ways(int[] row, int i) {
        switch (row[0]) {
            case 8:
                return List.of(row[2]);
            case 9:
                return List.of(row[3], i + 1);
            case 10:
                return List.of();
            default:
                return List.of(i + 1);
        }
    }

    /** Null for not reached; in a row null for any. */
    private Integer[][] facts() {
        Integer[][] facts = new Integer[source.size()][];
        facts[0] = new Integer[5];
        Deque<Integer> queue = new ArrayDeque<>(List.of(0));
        while (!queue.isEmpty()) {
            int i = queue.removeLast();
            int[] row = source.get(i);
            Integer[] after = facts[i].clone();
            if (row[0] == 6 && Objects.equals(facts[i][row[3]], 0)) {
                continue;
            }
            if (row[0] >= 1 && row[0] <= 7) {
                after[row[1]] = made(row, facts[i]);
            }
            List<Integer> ways = ways(row, i);
            if (row[0] == 9 && facts[i][row[2]] != null) {
                ways = List.of(facts[i][row[2]] != 0 ? row[3] : i + 1);
            }
            for (int way : ways) {
                Integer[] joined = joined(facts[way], after);
                if (!Arrays.equals(facts[way], joined)) {
                    facts[way] = joined;
                    queue.addLast(way);
                }
            }
        }
        return facts;
    }

    private static Integer[] joined(Integer[] old, Integer[] flowing) {
        if (old == null) {
            return flowing.clone();
        }
        Integer[] joined = new Integer[5];
        for (int r = 0; r < 5; r++) {
            joined[r] = Objects.equals(old[r], flowing[r]) ? old[r] : null;
        }
        return joined;
    }

    private static Integer made(int[] row, Integer[] facts) {
        if (row[0] == 1) {
            return row[2];
        }
        if (row[0] == 2) {
            return facts[row[2]];
        }
        Integer x = facts[row[2]];
        Integer y = facts[row[3]];
        return x == null || y == null ? null : combined(row[0], x, y);
    }

    /** Null where it is broken off. */
    private static Integer combined(int op, long x, long y) {
        if (op == 3) {
            return (int) (x + y);
        }
        if (op == 4) {
            return (int) (x - y);
        }
        if (op == 5) {
            return (int) (x * y);
        }
        if (op == 6) {
            return y == 0 ? null : (int) (x / y);
        }
        return x < y ? 1 : 0;
    }

    private static int neededIn(List<int[]> rows, int i) {
        int set = 0;
        for (int r = 0; r < 5; r++) {
            if (isRead(rows, i, r, new HashSet<>())) {
                set |= 1 << r;
            }
        }
        return set;
    }

    /** Some path from i reads register r before it is made anew. */
    private static boolean isRead(List<int[]> rows, int i, int r, Set<Integer> seen) {
        if (i >= rows.size() || !seen.add(i)) {
            return false;
        }
        int[] row = rows.get(i);
        boolean reads = row[0] == 10 && (row[2] >> r & 1) == 1
                || (row[0] >= 2 && row[0] <= 7 || row[0] == 9) && row[2] == r
                || row[0] >= 3 && row[0] <= 7 && row[3] == r;
        if (reads) {
            return true;
        }
        if (row[0] >= 1 && row[0] <= 7 && row[1] == r) {
            return false;
        }
        for (int way : ways(row, i)) {
            if (isRead(rows, way, r, seen)) {
                return true;
            }
        }
        return false;
    }

    private static String symbol(int[] row, String[] held, boolean folding) {
        if (row[0] == 1) {
            return Integer.toString(row[2]);
        }
        String x = held[row[2]];
        if (row[0] == 2) {
            return x;
        }
        String y = held[row[3]];
        if (folding && isNumber(x) && isNumber(y)) {
            Integer value = combined(row[0], Integer.parseInt(x), Integer.parseInt(y));
            if (value != null) {
                return value.toString();
            }
        }
        return "(" + row[0] + "," + x + "," + y + ")";
    }

    private static boolean isNumber(String symbol) {
        return symbol.charAt(0) != 'r' && symbol.charAt(0) != '(';
    }

    private boolean alike(Integer[] facts, int from, int to) {
        String[] ofSource = begun(facts);
        String[] ofResult = begun(facts);
        Set<String> risksOfSource = new LinkedHashSet<>();
        Set<String> risksOfResult = new LinkedHashSet<>();
        String endOfSource = walked(source, from, to, ofSource, risksOfSource);
        String endOfResult = walked(result, from, to, ofResult, risksOfResult);
        if (!endOfSource.equals(endOfResult)
                || !new ArrayList<>(risksOfSource).equals(new ArrayList<>(risksOfResult))) {
            return false;
        }
        int set = 0;
        String[] parts = endOfResult.split(" ");
        if (parts[0].equals("END")) {
            set = Integer.parseInt(parts[1]);
        } else {
            for (int k = 1; k < (parts[0].equals("GO") ? 2 : 3); k++) {
                int place = Integer.parseInt(parts[k]);
                if (place >= result.size()) {
                    return false;
                }
                set |= neededIn(result, place);
            }
        }
        for (int r = 0; r < 5; r++) {
            if ((set >> r & 1) == 1 && !ofSource[r].equals(ofResult[r])) {
                return false;
            }
        }
        return true;
    }

    private static String[] begun(Integer[] facts) {
        String[] held = new String[5];
        for (int r = 0; r < 5; r++) {
            held[r] = facts[r] == null ? "r" + r : facts[r].toString();
        }
        return held;
    }

    /** The end: "GO place", "EITHER b next symbol" or "END set". */
    private static String walked(List<int[]> rows, int from, int to, String[] held, Set<String> risks) {
        for (int i = from; i < to; i++) {
            int[] row = rows.get(i);
            if (row[0] == 8) {
                return "GO " + row[2];
            }
            if (row[0] == 9) {
                String test = held[row[2]];
                if (isNumber(test)) {
                    return "GO " + (test.equals("0") ? i + 1 : row[3]);
                }
                return row[3] == i + 1 ? "GO " + row[3] : "EITHER " + row[3] + " " + (i + 1) + " " + test;
            }
            if (row[0] == 10) {
                return "END " + row[2];
            }
            if (row[0] == 6 && (!isNumber(held[row[3]]) || held[row[3]].equals("0"))) {
                risks.add(held[row[2]] + " by " + held[row[3]]);
            }
            if (row[0] != 0) {
                held[row[1]] = symbol(row, held, true);
            }
        }
        return "GO " + to;
    }

    private int run(List<int[]> rows, int fuel) {
        int[] registers = inputs.clone();
        told = new int[5];
        int at = 0;
        for (steps = 0; at < rows.size(); ) {
            if (steps == fuel) {
                return 2;
            }
            steps++;
            int[] row = rows.get(at);
            at++;
            if (row[0] == 10) {
                for (int r = 0; r < 5; r++) {
                    told[r] = (row[2] >> r & 1) == 1 ? registers[r] : 0;
                }
                return 0;
            } else if (row[0] == 1) {
                registers[row[1]] = row[2];
            } else if (row[0] == 2) {
                registers[row[1]] = registers[row[2]];
            } else if (row[0] >= 3 && row[0] <= 7) {
                Integer value = combined(row[0], registers[row[2]], registers[row[3]]);
                if (value == null) {
                    return 1;
                }
                registers[row[1]] = value;
            } else if (row[0] == 8) {
                at = row[2];
            } else if (row[0] == 9 && registers[row[2]] != 0) {
                at = row[3];
            }
        }
        return 1;
    }
}
