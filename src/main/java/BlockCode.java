/**
 * Small programs that are made better and checked: a source, a result that came of it, and a
 * comparison that tells whether the result does the same.
 */
public final class BlockCode {
    private static final int MOST_INSTRUCTIONS = 20;
    private static final int REGISTERS = 5;
    private static final int MOST_FUEL = 1000;

    private static final int NOTHING = 0;
    private static final int SET = 1;
    private static final int COPY = 2;
    private static final int PLUS = 3;
    private static final int MINUS = 4;
    private static final int TIMES = 5;
    private static final int DIVIDED = 6;
    private static final int LESS = 7;
    private static final int GO = 8;
    private static final int BRANCH = 9;
    private static final int END = 10;

    // Outside the ints, so that one long tells an int and these apart.
    private static final long ANY = 4294967296L;
    private static final long NOT_REACHED = 4294967297L;
    private static final long NO_FACT = 4294967298L;

    private static final int NO_INSTRUCTION = -9;
    private static final int REFUSED = -1;
    private static final int FULL = -2;

    private final Code sourceCode;
    private final Code resultCode;
    private final Facts facts;
    private final Symbols symbols;
    private final Walk sourceWalk;
    private final Walk resultWalk;
    private final Machine machine;
    // There is a result just while the source is sealed, so this tells both.
    private boolean sealed;
    private boolean foundAlike;

    public BlockCode() {
        sourceCode = new Code();
        resultCode = new Code();
        facts = new Facts();
        symbols = new Symbols();
        sourceWalk = new Walk(symbols);
        resultWalk = new Walk(symbols);
        machine = new Machine();
        sealed = false;
        foundAlike = false;
    }

    public int add(int op, int d, int a, int b) throws IllegalStateException {
        if (sealed) {
            throw new IllegalStateException("the source is sealed");
        }
        if (!hasForm(op, d, a, b)) {
            return REFUSED;
        }
        if (sourceCode.length >= MOST_INSTRUCTIONS) {
            return FULL;
        }
        int place = sourceCode.length;
        sourceCode.length = place + 1;
        sourceCode.put(place, op, d, a, b);
        return place;
    }

    public void clear() {
        sourceCode.length = 0;
        resultCode.length = 0;
        sealed = false;
        foundAlike = false;
    }

    public int seal() throws IllegalStateException {
        if (sealed) {
            throw new IllegalStateException("the source is sealed already");
        }
        if (!sourceCode.canBeSealed()) {
            return REFUSED;
        }
        sealed = true;
        studySource();
        resultBecomesSource();
        return Integer.bitCount(sourceCode.leaders);
    }

    public int size() {
        return sourceCode.length;
    }

    public int source(int i, int field) {
        return sourceCode.number(i, field);
    }

    public int result(int i, int field) {
        return resultCode.number(i, field);
    }

    public long known(int i, int r) {
        if (!sealed || !sourceCode.has(i) || !isRegister(r)) {
            return NO_FACT;
        }
        return facts.at(i, r);
    }

    public int needed(int i) {
        if (!sealed || !sourceCode.has(i)) {
            return NO_INSTRUCTION;
        }
        return sourceCode.needAt(i);
    }

    public int constants() throws IllegalStateException {
        requireSealed();
        resultBecomesSource();
        for (int i = 0; i < sourceCode.length; i++) {
            if (facts.reached(i)) {
                putConstant(i);
            }
        }
        return resultCode.differencesFrom(sourceCode);
    }

    public int repeats() throws IllegalStateException {
        requireSealed();
        resultBecomesSource();
        for (int i = 0; i < sourceCode.length; i++) {
            if (sourceCode.isLeader(i)) {
                symbols.forget();
                sourceWalk.beginUnknown();
            }
            putRepeat(i);
            sourceWalk.follow(sourceCode, i, false);
        }
        return resultCode.differencesFrom(sourceCode);
    }

    public int unneeded() throws IllegalStateException {
        requireSealed();
        resultBecomesSource();
        for (int i = 0; i < sourceCode.length; i++) {
            int op = sourceCode.op[i];
            // A 6 stays even so, since it may break off.
            boolean removable = makesRegister(op) && op != DIVIDED;
            if (removable && !isIn(sourceCode.d[i], sourceCode.needAt(i + 1))) {
                resultCode.put(i, NOTHING, 0, 0, 0);
            }
        }
        return resultCode.differencesFrom(sourceCode);
    }

    public boolean poke(int i, int op, int d, int a, int b) {
        if (!resultCode.has(i)) {
            return false;
        }
        if (!hasForm(op, d, a, b) || namedBy(op, a, b) >= sourceCode.length) {
            return false;
        }
        resultCode.put(i, op, d, a, b);
        foundAlike = false;
        return true;
    }

    public int compare() throws IllegalStateException {
        requireSealed();
        resultCode.findNeeds();
        for (int i = 0; i < sourceCode.length; i++) {
            if (sourceCode.isLeader(i) && facts.reached(i) && !isBlockAlike(i)) {
                return 1 + i;
            }
        }
        foundAlike = true;
        return 0;
    }

    public boolean commit() {
        if (!sealed || !foundAlike || !resultCode.endsWell()) {
            return false;
        }
        sourceCode.become(resultCode);
        studySource();
        foundAlike = false;
        return true;
    }

    public boolean input(int r, int v) {
        if (!isRegister(r)) {
            return false;
        }
        machine.inputs[r] = v;
        return true;
    }

    public int runSource(int fuel) {
        return runCode(sourceCode, fuel);
    }

    public int runResult(int fuel) {
        return runCode(resultCode, fuel);
    }

    public int told(int r) {
        if (!isRegister(r) || !isIn(r, machine.toldSet)) {
            return 0;
        }
        return machine.registers[r];
    }

    public int steps() {
        return machine.done;
    }

    private void requireSealed() {
        if (!sealed) {
            throw new IllegalStateException("the source is not sealed");
        }
    }

    private void studySource() {
        sourceCode.findLeaders();
        sourceCode.findNeeds();
        facts.find(sourceCode);
    }

    private void resultBecomesSource() {
        resultCode.become(sourceCode);
        foundAlike = false;
    }

    private void putConstant(int i) {
        int op = sourceCode.op[i];
        if (op == BRANCH) {
            putSettledBranch(i, facts.at(i, sourceCode.a[i]));
        } else if (op != SET && makesRegister(op)) {
            long value = facts.madeBy(sourceCode, i);
            if (isInt(value)) {
                resultCode.put(i, SET, sourceCode.d[i], (int) value, 0);
            }
        }
    }

    private void putSettledBranch(int i, long test) {
        if (!isInt(test)) {
            return;
        }
        if (test != 0) {
            resultCode.put(i, GO, 0, sourceCode.b[i], 0);
        } else {
            resultCode.put(i, NOTHING, 0, 0, 0);
        }
    }

    private void putRepeat(int i) {
        if (!combines(sourceCode.op[i])) {
            return;
        }
        int holder = sourceWalk.leastHolder(sourceWalk.madeBy(sourceCode, i, false));
        if (holder == sourceCode.d[i]) {
            resultCode.put(i, NOTHING, 0, 0, 0);
        } else if (holder >= 0) {
            resultCode.put(i, COPY, sourceCode.d[i], holder, 0);
        }
    }

    private boolean isBlockAlike(int leader) {
        int last = sourceCode.lastOfBlock(leader);
        symbols.forget();
        sourceWalk.beginKnown(facts, leader);
        sourceWalk.goThrough(sourceCode, leader, last);
        resultWalk.beginKnown(facts, leader);
        resultWalk.goThrough(resultCode, leader, last);
        // No way of the source leads behind its last instruction, so a result that goes there
        // has another end.
        return sourceWalk.hasRisksOf(resultWalk)
                && sourceWalk.hasEndOf(resultWalk)
                && sourceWalk.holdsAlike(resultWalk, resultWalk.countingRegisters(resultCode));
    }

    private int runCode(Code code, int fuel) {
        if (!sealed || fuel < 0 || fuel > MOST_FUEL) {
            return REFUSED;
        }
        return machine.run(code, fuel);
    }

    private static boolean isRegister(int r) {
        return r >= 0 && r < REGISTERS;
    }

    private static boolean isPlace(int i) {
        return i >= 0 && i < MOST_INSTRUCTIONS;
    }

    private static boolean isIn(int r, int set) {
        return ((set >> r) & 1) != 0;
    }

    private static boolean isInt(long fact) {
        return fact < ANY;
    }

    private static boolean makesRegister(int op) {
        return op >= SET && op <= LESS;
    }

    private static boolean combines(int op) {
        return op >= PLUS && op <= LESS;
    }

    private static boolean readsA(int op) {
        return (op >= COPY && op <= LESS) || op == BRANCH;
    }

    /** The instruction that an 8 or 9 names, else -1. */
    private static int namedBy(int op, int a, int b) {
        if (op == GO) {
            return a;
        }
        return op == BRANCH ? b : -1;
    }

    private static boolean hasForm(int op, int d, int a, int b) {
        if (op < NOTHING || op > END) {
            return false;
        }
        if (makesRegister(op) && !isRegister(d)) {
            return false;
        }
        if (readsA(op) && !isRegister(a)) {
            return false;
        }
        if (combines(op) && !isRegister(b)) {
            return false;
        }
        if (op == GO || op == BRANCH) {
            return isPlace(namedBy(op, a, b));
        }
        return op != END || (a >= 0 && a < (1 << REGISTERS));
    }

    private static boolean dividesByZero(int op, int y) {
        return op == DIVIDED && y == 0;
    }

    /** What a 3 to 7 makes of two ints; a division by 0 is the caller's to keep away. */
    private static int combined(int op, int x, int y) {
        switch (op) {
            case PLUS:
                return x + y;
            case MINUS:
                return x - y;
            case TIMES:
                return x * y;
            case DIVIDED:
                return y == 0 ? 0 : x / y;
            default:
                return x < y ? 1 : 0;
        }
    }

    /** A program, with what can be read off it without running it. */
    private static final class Code {
        private static final int MOST_NEED_ROUNDS = MOST_INSTRUCTIONS * REGISTERS + 1;

        final int[] op = new int[MOST_INSTRUCTIONS];
        final int[] d = new int[MOST_INSTRUCTIONS];
        final int[] a = new int[MOST_INSTRUCTIONS];
        final int[] b = new int[MOST_INSTRUCTIONS];
        final int[] need = new int[MOST_INSTRUCTIONS];
        int length;
        // Bit i for instruction i.
        int leaders;

        boolean has(int i) {
            return i >= 0 && i < length;
        }

        void put(int i, int newOp, int newD, int newA, int newB) {
            op[i] = newOp;
            d[i] = makesRegister(newOp) ? newD : 0;
            a[i] = newOp == NOTHING ? 0 : newA;
            b[i] = combines(newOp) || newOp == BRANCH ? newB : 0;
        }

        int number(int i, int field) {
            if (!has(i)) {
                return NO_INSTRUCTION;
            }
            switch (field) {
                case 0:
                    return op[i];
                case 1:
                    return d[i];
                case 2:
                    return a[i];
                case 3:
                    return b[i];
                default:
                    return 0;
            }
        }

        void become(Code other) {
            length = other.length;
            for (int i = 0; i < length; i++) {
                put(i, other.op[i], other.d[i], other.a[i], other.b[i]);
            }
        }

        int differencesFrom(Code other) {
            int differences = 0;
            for (int i = 0; i < length; i++) {
                if (op[i] != other.op[i] || d[i] != other.d[i]
                        || a[i] != other.a[i] || b[i] != other.b[i]) {
                    differences++;
                }
            }
            return differences;
        }

        boolean endsWell() {
            return length > 0 && (op[length - 1] == GO || op[length - 1] == END);
        }

        boolean canBeSealed() {
            for (int i = 0; i < length; i++) {
                if (namedBy(op[i], a[i], b[i]) >= length) {
                    return false;
                }
            }
            return endsWell();
        }

        void findLeaders() {
            leaders = 1;
            for (int i = 0; i < length; i++) {
                int named = namedBy(op[i], a[i], b[i]);
                if (named >= 0) {
                    leaders |= 1 << named;
                }
                if (op[i] >= GO && i + 1 < length) {
                    leaders |= 1 << (i + 1);
                }
            }
        }

        boolean isLeader(int i) {
            return isIn(i, leaders);
        }

        int lastOfBlock(int leader) {
            int last = leader;
            while (last + 1 < length && !isLeader(last + 1)) {
                last++;
            }
            return last;
        }

        /** Grows the sets from empty ones, so that the least that fit are found. */
        void findNeeds() {
            for (int i = 0; i < length; i++) {
                need[i] = 0;
            }
            boolean grew = true;
            for (int round = 0; grew && round < MOST_NEED_ROUNDS; round++) {
                grew = false;
                // Backwards, as needs flow, so that few rounds do.
                for (int i = length - 1; i >= 0; i--) {
                    int found = operandsOf(i) | (needBehind(i) & ~madeBy(i));
                    grew = grew || found != need[i];
                    need[i] = found;
                }
            }
        }

        int needAt(int i) {
            return has(i) ? need[i] : 0;
        }

        private int needBehind(int i) {
            switch (op[i]) {
                case GO:
                    return needAt(a[i]);
                case BRANCH:
                    return needAt(b[i]) | needAt(i + 1);
                case END:
                    return 0;
                default:
                    return needAt(i + 1);
            }
        }

        private int operandsOf(int i) {
            if (op[i] == END) {
                return a[i];
            }
            int operands = readsA(op[i]) ? 1 << a[i] : 0;
            return combines(op[i]) ? operands | (1 << b[i]) : operands;
        }

        private int madeBy(int i) {
            return makesRegister(op[i]) ? 1 << d[i] : 0;
        }
    }

    /** What is known before each instruction of a sealed source. */
    private static final class Facts {
        // Each of the facts can change twice: to an int and to any.
        private static final int MOST_ROUNDS = 2 * MOST_INSTRUCTIONS * REGISTERS + 1;

        private final long[] before = new long[MOST_INSTRUCTIONS * REGISTERS];
        private final long[] flowing = new long[REGISTERS];

        long at(int i, int r) {
            return before[i * REGISTERS + r];
        }

        boolean reached(int i) {
            return at(i, 0) != NOT_REACHED;
        }

        /** Grows the facts from not reached, so that the least that fit are found. */
        void find(Code code) {
            for (int k = 0; k < before.length; k++) {
                before[k] = k < REGISTERS ? ANY : NOT_REACHED;
            }
            boolean grew = true;
            for (int round = 0; grew && round < MOST_ROUNDS; round++) {
                grew = false;
                for (int i = 0; i < code.length; i++) {
                    if (reached(i) && flowFrom(code, i)) {
                        grew = true;
                    }
                }
            }
        }

        /** The int that a 1 to 7 makes, or any where none is known. */
        long madeBy(Code code, int i) {
            int op = code.op[i];
            if (op == SET) {
                return code.a[i];
            }
            long x = at(i, code.a[i]);
            if (op == COPY) {
                return x;
            }
            long y = at(i, code.b[i]);
            if (!isInt(x) || !isInt(y) || dividesByZero(op, (int) y)) {
                return ANY;
            }
            return combined(op, (int) x, (int) y);
        }

        private boolean flowFrom(Code code, int i) {
            int op = code.op[i];
            if (op == END || (op == DIVIDED && at(i, code.b[i]) == 0)) {
                return false;
            }
            for (int r = 0; r < REGISTERS; r++) {
                flowing[r] = at(i, r);
            }
            if (makesRegister(op)) {
                flowing[code.d[i]] = madeBy(code, i);
            }
            if (op == BRANCH) {
                return flowFromBranch(code, i);
            }
            return flowTo(op == GO ? code.a[i] : i + 1);
        }

        private boolean flowFromBranch(Code code, int i) {
            long test = at(i, code.a[i]);
            boolean grew = false;
            if (test != 0) {
                grew = flowTo(code.b[i]);
            }
            if (test == 0 || test == ANY) {
                grew = flowTo(i + 1) || grew;
            }
            return grew;
        }

        private boolean flowTo(int i) {
            if (!isPlace(i)) {
                return false;
            }
            boolean grew = false;
            for (int r = 0; r < REGISTERS; r++) {
                long old = at(i, r);
                long joined = old == NOT_REACHED || old == flowing[r] ? flowing[r] : ANY;
                grew = grew || joined != old;
                before[i * REGISTERS + r] = joined;
            }
            return grew;
        }
    }

    /** Symbols by number, each kept once, so that the same symbols have the same number. */
    private static final class Symbols {
        // Those that a block begins with, and one for each instruction of both programs.
        private static final int MOST_SYMBOLS = REGISTERS + 2 * MOST_INSTRUCTIONS;
        // Two kinds beside the ops 3 to 7.
        private static final int OF_REGISTER = 0;
        private static final int OF_INT = 1;

        private final int[] kind = new int[MOST_SYMBOLS];
        private final int[] left = new int[MOST_SYMBOLS];
        private final int[] right = new int[MOST_SYMBOLS];
        private int count;

        void forget() {
            count = 0;
        }

        int ofRegister(int r) {
            return numberOf(OF_REGISTER, r, 0);
        }

        int ofInt(int value) {
            return numberOf(OF_INT, value, 0);
        }

        int ofOp(int op, int x, int y) {
            return numberOf(op, x, y);
        }

        int ofOpFolded(int op, int x, int y) {
            if (!holdsInt(x) || !holdsInt(y) || dividesByZero(op, intOf(y))) {
                return numberOf(op, x, y);
            }
            return numberOf(OF_INT, combined(op, intOf(x), intOf(y)), 0);
        }

        boolean holdsInt(int symbol) {
            return kind[symbol] == OF_INT;
        }

        int intOf(int symbol) {
            return left[symbol];
        }

        private int numberOf(int k, int x, int y) {
            for (int s = 0; s < count; s++) {
                if (kind[s] == k && left[s] == x && right[s] == y) {
                    return s;
                }
            }
            int added = count;
            kind[added] = k;
            left[added] = x;
            right[added] = y;
            count = added + 1;
            return added;
        }
    }

    /** One program gone through in symbols, within one block. */
    private static final class Walk {
        private final Symbols symbols;
        private final int[] held = new int[REGISTERS];
        private final int[] riskDividend = new int[MOST_INSTRUCTIONS];
        private final int[] riskDivisor = new int[MOST_INSTRUCTIONS];
        private int risks;
        // GO, BRANCH for an end that may go either way, or END.
        private int endKind;
        // The instruction gone to, or the b of a BRANCH, or the set of an END.
        private int endNumber;
        // These two tell a BRANCH apart and are 0 else.
        private int endPlace;
        private int endSymbol;

        Walk(Symbols symbols) {
            this.symbols = symbols;
        }

        void beginUnknown() {
            for (int r = 0; r < REGISTERS; r++) {
                held[r] = symbols.ofRegister(r);
            }
        }

        void beginKnown(Facts facts, int leader) {
            risks = 0;
            for (int r = 0; r < REGISTERS; r++) {
                long fact = facts.at(leader, r);
                held[r] = isInt(fact) ? symbols.ofInt((int) fact) : symbols.ofRegister(r);
            }
        }

        void goThrough(Code code, int leader, int last) {
            for (int i = leader; i <= last; i++) {
                if (code.op[i] >= GO) {
                    endAt(code, i);
                    return;
                }
                noteRisk(code, i);
                follow(code, i, true);
            }
            endBy(GO, last + 1);
        }

        void follow(Code code, int i, boolean folding) {
            if (makesRegister(code.op[i])) {
                held[code.d[i]] = madeBy(code, i, folding);
            }
        }

        /** The symbol that a 1 to 7 makes. */
        int madeBy(Code code, int i, boolean folding) {
            int op = code.op[i];
            if (op == SET) {
                return symbols.ofInt(code.a[i]);
            }
            int x = held[code.a[i]];
            if (op == COPY) {
                return x;
            }
            int y = held[code.b[i]];
            return folding ? symbols.ofOpFolded(op, x, y) : symbols.ofOp(op, x, y);
        }

        /** The least register that holds the symbol, or -1. */
        int leastHolder(int symbol) {
            for (int r = 0; r < REGISTERS; r++) {
                if (held[r] == symbol) {
                    return r;
                }
            }
            return -1;
        }

        boolean hasRisksOf(Walk other) {
            if (risks != other.risks) {
                return false;
            }
            for (int k = 0; k < risks; k++) {
                if (riskDividend[k] != other.riskDividend[k]
                        || riskDivisor[k] != other.riskDivisor[k]) {
                    return false;
                }
            }
            return true;
        }

        boolean hasEndOf(Walk other) {
            return endKind == other.endKind && endNumber == other.endNumber
                    && endPlace == other.endPlace && endSymbol == other.endSymbol;
        }

        boolean holdsAlike(Walk other, int set) {
            for (int r = 0; r < REGISTERS; r++) {
                if (isIn(r, set) && held[r] != other.held[r]) {
                    return false;
                }
            }
            return true;
        }

        /** The registers whose symbols matter behind the end of the walk. */
        int countingRegisters(Code code) {
            if (endKind == END) {
                return endNumber;
            }
            int set = code.needAt(endNumber);
            return endKind == BRANCH ? set | code.needAt(endPlace + 1) : set;
        }

        private void noteRisk(Code code, int i) {
            if (code.op[i] != DIVIDED) {
                return;
            }
            int dividend = held[code.a[i]];
            int divisor = held[code.b[i]];
            if (symbols.holdsInt(divisor) && symbols.intOf(divisor) != 0) {
                return;
            }
            if (!hasRisk(dividend, divisor)) {
                riskDividend[risks] = dividend;
                riskDivisor[risks] = divisor;
                risks++;
            }
        }

        private boolean hasRisk(int dividend, int divisor) {
            for (int k = 0; k < risks; k++) {
                if (riskDividend[k] == dividend && riskDivisor[k] == divisor) {
                    return true;
                }
            }
            return false;
        }

        private void endAt(Code code, int i) {
            if (code.op[i] == BRANCH) {
                endAtBranch(i, held[code.a[i]], code.b[i]);
            } else {
                endBy(code.op[i], code.a[i]);
            }
        }

        private void endAtBranch(int i, int test, int b) {
            if (symbols.holdsInt(test)) {
                endBy(GO, symbols.intOf(test) != 0 ? b : i + 1);
            } else if (b == i + 1) {
                endBy(GO, b);
            } else {
                endBy(BRANCH, b);
                endPlace = i;
                endSymbol = test;
            }
        }

        private void endBy(int kind, int number) {
            endKind = kind;
            endNumber = number;
            endPlace = 0;
            endSymbol = 0;
        }
    }

    /** The inputs, and the latest run. */
    private static final class Machine {
        private static final int CAME_TO_END = 0;
        private static final int BROKEN_OFF = 1;
        private static final int OUT_OF_FUEL = 2;

        final int[] inputs = new int[REGISTERS];
        final int[] registers = new int[REGISTERS];
        // Empty unless the run came to an end.
        int toldSet;
        int done;

        int run(Code code, int fuel) {
            begin();
            int place = 0;
            for (int count = 1; count <= fuel; count++) {
                if (!code.has(place)) {
                    return BROKEN_OFF;
                }
                done = count;
                if (code.op[place] == END) {
                    toldSet = code.a[place];
                    return CAME_TO_END;
                }
                if (breaksOff(code, place)) {
                    return BROKEN_OFF;
                }
                perform(code, place);
                place = placeAfter(code, place);
            }
            return code.has(place) ? OUT_OF_FUEL : BROKEN_OFF;
        }

        private void begin() {
            toldSet = 0;
            done = 0;
            for (int r = 0; r < REGISTERS; r++) {
                registers[r] = inputs[r];
            }
        }

        private boolean breaksOff(Code code, int place) {
            return code.op[place] == DIVIDED && registers[code.b[place]] == 0;
        }

        private void perform(Code code, int place) {
            int op = code.op[place];
            if (op == SET) {
                registers[code.d[place]] = code.a[place];
            } else if (op == COPY) {
                registers[code.d[place]] = registers[code.a[place]];
            } else if (combines(op)) {
                int x = registers[code.a[place]];
                int y = registers[code.b[place]];
                registers[code.d[place]] = combined(op, x, y);
            }
        }

        private int placeAfter(Code code, int place) {
            int op = code.op[place];
            if (op == GO) {
                return code.a[place];
            }
            if (op == BRANCH && registers[code.a[place]] != 0) {
                return code.b[place];
            }
            return place + 1;
        }
    }
}
