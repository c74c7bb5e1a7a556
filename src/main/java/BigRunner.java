import java.util.Arrays;

/**
 * A small language of whole numbers without bounds: a text is read, intervals of all its variables
 * are found, what surely stays small is worked out in machine numbers and all else in long ones,
 * step by step, with inputs and outputs, until it ends or is trapped.
 */
public final class BigRunner {
    private static final int MOST_CHARACTERS = 72;
    private static final int LOWEST_CODE = 33;
    private static final int HIGHEST_CODE = 126;
    private static final int VARIABLES = 10;
    private static final int MOST_STEPS_A_CALL = 200;

    private static final int NO_PROGRAM = 0;
    private static final int UNDER_WAY = 1;
    private static final int WAITS = 2;
    private static final int ENDED = 3;
    private static final int TRAPPED = 4;

    private final char[] line = new char[MOST_CHARACTERS];
    private int lineLength = 0;
    private final Reader reader = new Reader();
    private final Runner runner = new Runner();
    private boolean loaded = false;

    public BigRunner() {
    }

    public boolean type(char c) {
        if (c < LOWEST_CODE || c > HIGHEST_CODE || lineLength >= MOST_CHARACTERS) {
            return false;
        }
        line[lineLength] = c;
        lineLength++;
        return true;
    }

    public void wipe() {
        lineLength = 0;
    }

    public int load() throws IllegalArgumentException {
        if (!reader.reads(line, lineLength)) {
            throw new IllegalArgumentException("the line is no PROGRAM");
        }
        // Two programs take turns, so that a line that is no PROGRAM spoils nothing of the loaded one.
        Program read = reader.program;
        reader.program = runner.program;
        int rounds = read.findIntervals();
        runner.begin(read);
        loaded = true;
        lineLength = 0;
        return rounds;
    }

    public boolean give(int number) {
        return runner.inputs.append(number);
    }

    public int run(int n) throws IllegalStateException, IllegalArgumentException, ArithmeticException,
            UnsupportedOperationException {
        if (!loaded || runner.hasEnded() || runner.trap != Runner.NO_TRAP) {
            throw new IllegalStateException("no program is under way");
        }
        if (n < 1 || n > MOST_STEPS_A_CALL) {
            throw new IllegalArgumentException("not 1 .. 200 steps");
        }
        int made = 0;
        while (made < n && runner.goesOn()) {
            runner.makeStep();
            made++;
        }
        if (runner.trap == Runner.DIVISION_BY_0) {
            throw new ArithmeticException("a division by 0");
        }
        if (runner.trap != Runner.NO_TRAP) {
            throw new UnsupportedOperationException("too many digits or steps");
        }
        return made;
    }

    public int look(int what) {
        switch (what) {
            case 0:
                return state();
            case 1:
                return runner.trap;
            case 2:
                return runner.steps;
            case 3:
                return runner.machineOperations;
            case 4:
                return runner.longOperations;
            case 5:
                return runner.outputs;
            case 6:
                return runner.inputs.waiting;
            default:
                return -1;
        }
    }

    public long bound(int variable, boolean greatest) throws IndexOutOfBoundsException, UnsupportedOperationException {
        if (!hasVariable(variable)) {
            throw new IndexOutOfBoundsException("no such variable");
        }
        Interval interval = runner.program.variables[variable];
        long bound = greatest ? interval.greatest : interval.least;
        if (Interval.isUnbounded(bound)) {
            throw new UnsupportedOperationException("UNBOUNDED");
        }
        return bound;
    }

    public boolean small(int variable) {
        return hasVariable(variable) && runner.program.variables[variable].isBounded();
    }

    public int variable(int variable, int k) throws IndexOutOfBoundsException {
        if (!hasVariable(variable) || k < LongNumber.DIGITS) {
            throw new IndexOutOfBoundsException("no such variable or part of it");
        }
        return runner.valueOf(variable).tell(k);
    }

    public int output(int output, int k) throws IndexOutOfBoundsException {
        if (output < 0 || output >= runner.keptOutputs() || k < LongNumber.DIGITS) {
            throw new IndexOutOfBoundsException("no such output or part of it");
        }
        return runner.kept[output].tell(k);
    }

    private boolean hasVariable(int index) {
        return loaded && index >= 0 && index < VARIABLES;
    }

    private int state() {
        if (!loaded) {
            return NO_PROGRAM;
        }
        if (runner.trap != Runner.NO_TRAP) {
            return TRAPPED;
        }
        if (runner.hasEnded()) {
            return ENDED;
        }
        return runner.lacksInput() ? WAITS : UNDER_WAY;
    }

    /** The numbers that wait, in a ring. */
    private static final class Inputs {
        static final int FARTHEST = 1000000000;
        static final int MOST = 20;

        private final int[] ring = new int[MOST];
        private int first = 0;
        int waiting = 0;

        boolean append(int number) {
            if (number < -FARTHEST || number > FARTHEST || waiting >= MOST) {
                return false;
            }
            ring[(first + waiting) % MOST] = number;
            waiting++;
            return true;
        }

        /** The next number, which waits no more; callers look at waiting before. */
        int take() {
            if (waiting == 0) {
                return 0;
            }
            int number = ring[first];
            first = (first + 1) % MOST;
            waiting--;
            return number;
        }
    }

    /** From a least to a greatest bound; what lies beyond LIMIT on either side stands for UNBOUNDED. */
    private static final class Interval {
        static final long LIMIT = 1L << 60;
        static final long NO_LEAST = Long.MIN_VALUE;
        static final long NO_GREATEST = Long.MAX_VALUE;
        static final long BEYOND = LIMIT + 1;

        long least = 0;
        long greatest = 0;

        static boolean isUnbounded(long bound) {
            return bound < -LIMIT || bound > LIMIT;
        }

        boolean isBounded() {
            return !isUnbounded(least) && !isUnbounded(greatest);
        }

        void set(long newLeast, long newGreatest) {
            least = isUnbounded(newLeast) ? NO_LEAST : newLeast;
            greatest = isUnbounded(newGreatest) ? NO_GREATEST : newGreatest;
        }

        /** Takes in the other one; a bound that moves goes all the way if it is widening. Whether one moved. */
        boolean join(Interval other, boolean widening) {
            boolean moved = false;
            if (other.least < least) {
                least = widening ? NO_LEAST : other.least;
                moved = true;
            }
            if (other.greatest > greatest) {
                greatest = widening ? NO_GREATEST : other.greatest;
                moved = true;
            }
            return moved;
        }

        void setNegation(Interval x) {
            set(-x.greatest, -x.least);
        }

        void setSum(Interval x, Interval y) {
            set(sum(x.least, y.least), sum(x.greatest, y.greatest));
        }

        void setDifference(Interval x, Interval y) {
            set(sum(x.least, -y.greatest), sum(x.greatest, -y.least));
        }

        void setProduct(Interval x, Interval y) {
            if (x.isZero() || y.isZero()) {
                set(0, 0);
                return;
            }
            if (!x.isBounded() || !y.isBounded()) {
                set(NO_LEAST, NO_GREATEST);
                return;
            }
            long a = product(x.least, y.least);
            long b = product(x.least, y.greatest);
            long c = product(x.greatest, y.least);
            long d = product(x.greatest, y.greatest);
            set(Math.min(Math.min(a, b), Math.min(c, d)), Math.max(Math.max(a, b), Math.max(c, d)));
        }

        void setQuotient(Interval x) {
            long farthest = x.farthest();
            set(-farthest, farthest);
        }

        void setRest(Interval x, Interval y) {
            long farthest = x.farthest();
            if (y.isBounded()) {
                farthest = Math.min(farthest, Math.max(0, y.farthest() - 1));
            }
            set(x.least >= 0 ? 0 : -farthest, farthest);
        }

        private boolean isZero() {
            return least == 0 && greatest == 0;
        }

        /** The greater absolute value of the bounds. */
        private long farthest() {
            return isBounded() ? Math.max(Math.abs(least), Math.abs(greatest)) : NO_GREATEST;
        }

        private static long sum(long a, long b) {
            return isUnbounded(a) || isUnbounded(b) ? BEYOND : a + b;
        }

        /** The product of two bounds within LIMIT, cut off just beyond LIMIT, where a long could wrap around. */
        private static long product(long a, long b) {
            if (a == 0 || b == 0) {
                return 0;
            }
            if (Math.abs(a) > LIMIT / Math.abs(b)) {
                return (a < 0) == (b < 0) ? BEYOND : -BEYOND;
            }
            return a * b;
        }
    }

    /** A number, a name or an operation of an EXPR, and what it was last worked out to be. */
    private static final class Node {
        static final int NUMBER = 0;
        static final int NAME = 1;
        static final int NEGATION = 2;
        static final int SUM = 3;
        static final int DIFFERENCE = 4;
        static final int PRODUCT = 5;
        static final int QUOTIENT = 6;
        static final int REST = 7;

        int kind = NUMBER;
        // Which nodes it works with; of a NAME, left is the variable instead.
        int left = 0;
        int right = 0;
        final Interval interval = new Interval();
        boolean isSmall = true;
        // The value is here if it is SMALL, else in wide; of a NUMBER it is here from its reading on.
        long machine = 0;
        final LongNumber wide = new LongNumber();

        LongNumber widened() {
            if (isSmall) {
                wide.setTo(machine);
            }
            return wide;
        }

        int sign() {
            return isSmall ? Long.signum(machine) : wide.sign;
        }
    }

    /** A STATEMENT, or the way back to a LOOP or past the second PROGRAM of a CHOICE. */
    private static final class Statement {
        static final int ASSIGNMENT = 0;
        static final int INPUT = 1;
        static final int OUTPUT = 2;
        static final int LOOP = 3;
        static final int CHOICE = 4;
        static final int JUMP = 5;

        int kind = JUMP;
        int name = 0;
        // Its EXPR is worked out from firstNode to lastNode, the latter being all of it.
        int firstNode = 0;
        int lastNode = -1;
        // Where a JUMP leads, and a LOOP or CHOICE whose EXPR is not above 0.
        int target = 0;
    }

    /** A program that was read: its STATEMENTs and their nodes in the order of the text, and the intervals. */
    private static final class Program {
        static final int MOST_STATEMENTS = MOST_CHARACTERS / 2;
        static final int WIDENING_ROUND = 4;
        // Each round from the fourth on but the last one makes at least one bound of the twenty UNBOUNDED.
        static final int MOST_ROUNDS = WIDENING_ROUND + 2 * VARIABLES;

        final Statement[] statements = new Statement[MOST_STATEMENTS];
        int statementCount = 0;
        final Node[] nodes = new Node[MOST_CHARACTERS];
        int nodeCount = 0;
        final Interval[] variables = new Interval[VARIABLES];
        private final Interval ofInput = new Interval();

        Program() {
            for (int i = 0; i < MOST_STATEMENTS; i++) {
                statements[i] = new Statement();
            }
            for (int i = 0; i < MOST_CHARACTERS; i++) {
                nodes[i] = new Node();
            }
            for (int i = 0; i < VARIABLES; i++) {
                variables[i] = new Interval();
            }
            ofInput.least = -Inputs.FARTHEST;
            ofInput.greatest = Inputs.FARTHEST;
        }

        /** Answers how many ROUNDS it took. */
        int findIntervals() {
            for (int i = 0; i < VARIABLES; i++) {
                variables[i].set(0, 0);
            }
            int round = 1;
            while (round < MOST_ROUNDS && makeRound(round >= WIDENING_ROUND)) {
                round++;
            }
            for (int i = 0; i < nodeCount; i++) {
                findInterval(nodes[i]);
                judge(nodes[i]);
            }
            return round;
        }

        private boolean makeRound(boolean widening) {
            boolean moved = false;
            for (int i = 0; i < statementCount; i++) {
                Statement statement = statements[i];
                if (statement.kind == Statement.INPUT) {
                    moved |= variables[statement.name].join(ofInput, widening);
                } else if (statement.kind == Statement.ASSIGNMENT) {
                    moved |= variables[statement.name].join(intervalOfExpr(statement), widening);
                }
            }
            return moved;
        }

        private Interval intervalOfExpr(Statement statement) {
            for (int i = statement.firstNode; i <= statement.lastNode; i++) {
                findInterval(nodes[i]);
            }
            return nodes[statement.lastNode].interval;
        }

        private void findInterval(Node node) {
            Interval interval = node.interval;
            switch (node.kind) {
                case Node.NUMBER:
                    interval.set(node.machine, node.machine);
                    break;
                case Node.NAME:
                    interval.set(variables[node.left].least, variables[node.left].greatest);
                    break;
                case Node.NEGATION:
                    interval.setNegation(nodes[node.left].interval);
                    break;
                case Node.SUM:
                    interval.setSum(nodes[node.left].interval, nodes[node.right].interval);
                    break;
                case Node.DIFFERENCE:
                    interval.setDifference(nodes[node.left].interval, nodes[node.right].interval);
                    break;
                case Node.PRODUCT:
                    interval.setProduct(nodes[node.left].interval, nodes[node.right].interval);
                    break;
                case Node.QUOTIENT:
                    interval.setQuotient(nodes[node.left].interval);
                    break;
                default:
                    interval.setRest(nodes[node.left].interval, nodes[node.right].interval);
                    break;
            }
        }

        /** Finds whether it is SMALL; what it is made of stands before it and is judged already. */
        private void judge(Node node) {
            boolean partsAreSmall = true;
            if (node.kind >= Node.NEGATION) {
                partsAreSmall = nodes[node.left].isSmall && nodes[node.right].isSmall;
            }
            node.isSmall = partsAreSmall && node.interval.isBounded();
        }
    }

    /** Reads a text into a program. A method that reads a node answers where it is, or NONE. */
    private static final class Reader {
        static final int NONE = -1;
        static final int DEEPEST = 10;
        static final int MOST_DIGITS = 9;
        static final char NOTHING = ' ';

        private char[] text = new char[0];
        private int length = 0;
        private int at = 0;
        Program program = new Program();

        /** Whether the text is a PROGRAM from end to end; if not, what was read of it is of no use. */
        boolean reads(char[] newText, int newLength) {
            text = newText;
            length = Math.min(newLength, newText.length);
            at = 0;
            program.statementCount = 0;
            program.nodeCount = 0;
            return readProgram(1) && at == length;
        }

        private char next() {
            return at < length ? text[at] : NOTHING;
        }

        private boolean accept(char c) {
            if (next() != c) {
                return false;
            }
            at++;
            return true;
        }

        private boolean readProgram(int depth) {
            if (depth > DEEPEST) {
                return false;
            }
            for (int i = 0; i < MOST_CHARACTERS; i++) {
                if (!readStatement(depth)) {
                    return false;
                }
                if (!accept(';')) {
                    return true;
                }
            }
            return false;
        }

        private boolean readStatement(int depth) {
            if (accept('?')) {
                return readName(addStatement(Statement.INPUT));
            }
            if (accept('!')) {
                return readExprOf(addStatement(Statement.OUTPUT), depth);
            }
            if (accept('[')) {
                return readLoop(depth);
            }
            if (accept('{')) {
                return readChoice(depth);
            }
            int statement = addStatement(Statement.ASSIGNMENT);
            return readName(statement) && accept('=') && readExprOf(statement, depth);
        }

        private boolean readLoop(int depth) {
            int loop = addStatement(Statement.LOOP);
            if (!readExprOf(loop, depth) || !accept(':') || !readProgram(depth + 1) || !accept(']')) {
                return false;
            }
            return aim(addStatement(Statement.JUMP), loop) && aim(loop, program.statementCount);
        }

        private boolean readChoice(int depth) {
            int choice = addStatement(Statement.CHOICE);
            if (!readExprOf(choice, depth) || !accept(':') || !readProgram(depth + 1) || !accept('|')) {
                return false;
            }
            int past = addStatement(Statement.JUMP);
            return aim(choice, program.statementCount) && readProgram(depth + 1) && accept('}')
                    && aim(past, program.statementCount);
        }

        private boolean readName(int statement) {
            char c = next();
            if (statement == NONE || c < 'a' || c >= 'a' + VARIABLES) {
                return false;
            }
            at++;
            program.statements[statement].name = c - 'a';
            return true;
        }

        private boolean readExprOf(int statement, int depth) {
            if (statement == NONE) {
                return false;
            }
            int first = program.nodeCount;
            int last = readExpr(depth);
            program.statements[statement].firstNode = first;
            program.statements[statement].lastNode = last;
            return last != NONE;
        }

        private int readExpr(int depth) {
            int node = readTerm(depth);
            for (int i = 0; i < MOST_CHARACTERS && node != NONE; i++) {
                if (accept('+')) {
                    node = addOperation(Node.SUM, node, readTerm(depth));
                } else if (accept('-')) {
                    node = addOperation(Node.DIFFERENCE, node, readTerm(depth));
                } else {
                    return node;
                }
            }
            return node;
        }

        private int readTerm(int depth) {
            int node = readFactor(depth);
            for (int i = 0; i < MOST_CHARACTERS && node != NONE; i++) {
                if (accept('*')) {
                    node = addOperation(Node.PRODUCT, node, readFactor(depth));
                } else if (accept('/')) {
                    node = addOperation(Node.QUOTIENT, node, readFactor(depth));
                } else if (accept('%')) {
                    node = addOperation(Node.REST, node, readFactor(depth));
                } else {
                    return node;
                }
            }
            return node;
        }

        private int readFactor(int depth) {
            if (depth > DEEPEST) {
                return NONE;
            }
            if (accept('-')) {
                int operand = readFactor(depth + 1);
                return addOperation(Node.NEGATION, operand, operand);
            }
            if (accept('(')) {
                int inner = readExpr(depth + 1);
                return accept(')') ? inner : NONE;
            }
            char c = next();
            if (c >= 'a' && c < 'a' + VARIABLES) {
                at++;
                return addOperation(Node.NAME, c - 'a', 0);
            }
            return readNumber();
        }

        private int readNumber() {
            int number = 0;
            int digits = 0;
            while (digits < MOST_DIGITS && next() >= '0' && next() <= '9') {
                number = 10 * number + (next() - '0');
                at++;
                digits++;
            }
            int node = digits == 0 ? NONE : addOperation(Node.NUMBER, 0, 0);
            if (node != NONE) {
                program.nodes[node].machine = number;
            }
            return node;
        }

        // A node has a character of its own and a STATEMENT or JUMP two: the rows are never too short.

        private int addOperation(int kind, int left, int right) {
            if (left == NONE || right == NONE || program.nodeCount >= program.nodes.length) {
                return NONE;
            }
            Node node = program.nodes[program.nodeCount];
            node.kind = kind;
            node.left = left;
            node.right = right;
            program.nodeCount++;
            return program.nodeCount - 1;
        }

        private int addStatement(int kind) {
            if (program.statementCount >= program.statements.length) {
                return NONE;
            }
            program.statements[program.statementCount].kind = kind;
            program.statementCount++;
            return program.statementCount - 1;
        }

        private boolean aim(int statement, int target) {
            if (statement == NONE) {
                return false;
            }
            program.statements[statement].target = target;
            return true;
        }
    }

    /** A program on its way: where it is, its variables and outputs, and what is counted. */
    private static final class Runner {
        static final int NO_TRAP = 0;
        static final int DIVISION_BY_0 = 1;
        static final int TOO_MANY_DIGITS = 2;
        static final int TOO_MANY_STEPS = 3;
        static final int MOST_STEPS = 3000;
        static final int KEPT_OUTPUTS = 12;

        Program program = new Program();
        final Inputs inputs = new Inputs();
        private int at = 0;
        // A SMALL variable is held in machine, another one in wide.
        private final long[] machine = new long[VARIABLES];
        private final LongNumber[] wide = new LongNumber[VARIABLES];
        private final LongNumber shown = new LongNumber();
        private final LongDivision division = new LongDivision();
        final LongNumber[] kept = new LongNumber[KEPT_OUTPUTS];
        int outputs = 0;
        int steps = 0;
        int machineOperations = 0;
        int longOperations = 0;
        int trap = NO_TRAP;

        Runner() {
            for (int i = 0; i < VARIABLES; i++) {
                wide[i] = new LongNumber();
            }
            for (int i = 0; i < KEPT_OUTPUTS; i++) {
                kept[i] = new LongNumber();
            }
        }

        void begin(Program newProgram) {
            program = newProgram;
            at = 0;
            for (int i = 0; i < VARIABLES; i++) {
                machine[i] = 0;
                wide[i].setTo(0);
            }
            outputs = 0;
            steps = 0;
            machineOperations = 0;
            longOperations = 0;
            trap = NO_TRAP;
        }

        boolean hasEnded() {
            return at >= program.statementCount;
        }

        boolean lacksInput() {
            return !hasEnded() && program.statements[at].kind == Statement.INPUT && inputs.waiting == 0;
        }

        int keptOutputs() {
            return Math.min(outputs, KEPT_OUTPUTS);
        }

        LongNumber valueOf(int index) {
            if (!program.variables[index].isBounded()) {
                return wide[index];
            }
            shown.setTo(machine[index]);
            return shown;
        }

        /** Whether a step can be made or tried: the one that is too many is not waited for. */
        boolean goesOn() {
            return trap == NO_TRAP && !hasEnded() && (steps >= MOST_STEPS || !lacksInput());
        }

        void makeStep() {
            if (steps >= MOST_STEPS) {
                trap = TOO_MANY_STEPS;
                return;
            }
            steps++;
            Statement statement = program.statements[at];
            if (statement.kind == Statement.INPUT) {
                store(statement.name, inputs.take());
                proceed(at + 1);
                return;
            }
            trap = workOut(statement);
            if (trap != NO_TRAP) {
                return;
            }
            Node result = program.nodes[statement.lastNode];
            if (statement.kind == Statement.ASSIGNMENT) {
                assign(statement.name, result);
            } else if (statement.kind == Statement.OUTPUT) {
                keep(result);
            } else if (result.sign() <= 0) {
                proceed(statement.target);
                return;
            }
            proceed(at + 1);
        }

        /** Goes where the next step is due, or to the end: a JUMP is no step. */
        private void proceed(int target) {
            at = target;
            for (int i = 0; i < Program.MOST_STATEMENTS && !hasEnded(); i++) {
                if (program.statements[at].kind != Statement.JUMP) {
                    return;
                }
                at = program.statements[at].target;
            }
        }

        private void store(int name, long value) {
            if (program.variables[name].isBounded()) {
                machine[name] = value;
            } else {
                wide[name].setTo(value);
            }
        }

        private void assign(int name, Node result) {
            if (result.isSmall) {
                store(name, result.machine);
            } else if (program.variables[name].isBounded()) {
                machine[name] = result.wide.toMachine();
            } else {
                wide[name].copy(result.wide, result.wide.sign);
            }
        }

        private void keep(Node result) {
            if (outputs < KEPT_OUTPUTS) {
                LongNumber value = result.widened();
                kept[outputs].copy(value, value.sign);
            }
            outputs++;
        }

        /** Works out the EXPR of a STATEMENT, from the left: what trapped it. */
        private int workOut(Statement statement) {
            for (int i = statement.firstNode; i <= statement.lastNode; i++) {
                Node node = program.nodes[i];
                int trapped = NO_TRAP;
                if (node.kind == Node.NAME) {
                    fetch(node);
                } else if (node.kind != Node.NUMBER) {
                    trapped = node.isSmall ? operate(node) : operateLong(node);
                }
                if (trapped != NO_TRAP) {
                    return trapped;
                }
            }
            return NO_TRAP;
        }

        private void fetch(Node node) {
            if (node.isSmall) {
                node.machine = machine[node.left];
            } else {
                node.wide.copy(wide[node.left], wide[node.left].sign);
            }
        }

        // An operation that traps was begun, and so it counts: both methods count before they work.

        private int operate(Node node) {
            machineOperations++;
            long x = program.nodes[node.left].machine;
            long y = program.nodes[node.right].machine;
            switch (node.kind) {
                case Node.NEGATION:
                    node.machine = -x;
                    return NO_TRAP;
                case Node.SUM:
                    node.machine = x + y;
                    return NO_TRAP;
                case Node.DIFFERENCE:
                    node.machine = x - y;
                    return NO_TRAP;
                case Node.PRODUCT:
                    node.machine = x * y;
                    return NO_TRAP;
                default:
                    if (y == 0) {
                        return DIVISION_BY_0;
                    }
                    node.machine = node.kind == Node.QUOTIENT ? x / y : x % y;
                    return NO_TRAP;
            }
        }

        private int operateLong(Node node) {
            longOperations++;
            LongNumber x = program.nodes[node.left].widened();
            LongNumber y = program.nodes[node.right].widened();
            boolean fits = true;
            switch (node.kind) {
                case Node.NEGATION:
                    node.wide.copy(x, -x.sign);
                    break;
                case Node.SUM:
                    fits = node.wide.setSum(x, y, y.sign);
                    break;
                case Node.DIFFERENCE:
                    fits = node.wide.setSum(x, y, -y.sign);
                    break;
                case Node.PRODUCT:
                    fits = node.wide.setProduct(x, y);
                    break;
                default:
                    if (y.sign == 0) {
                        return DIVISION_BY_0;
                    }
                    division.divide(x, y, node.wide, node.kind == Node.REST);
                    break;
            }
            return fits ? NO_TRAP : TOO_MANY_DIGITS;
        }
    }

    /** A whole number of at most 120 decimal digits. */
    private static final class LongNumber {
        static final int BASE = 1000000000;
        static final int DIGITS_A_LIMB = 9;
        // One limb more than 120 digits need: a product that needs it too can be made here and then be refused.
        static final int LIMBS = 15;
        static final int TOP_LIMB = 13;
        static final int TOO_HIGH = 1000;
        static final int SIGN = -1;
        static final int DIGITS = -2;
        private static final int[] POWERS = {1, 10, 100, 1000, 10000, 100000, 1000000, 10000000, 100000000};

        int sign = 0;
        // How many limbs are in use, lowest first; the highest of them is not 0.
        int size = 0;
        final int[] limbs = new int[LIMBS];

        void setTo(long value) {
            long left = Math.abs(value);
            sign = Long.signum(value);
            size = 0;
            for (int i = 0; i < LIMBS && left > 0; i++) {
                limbs[i] = (int) (left % BASE);
                left /= BASE;
                size++;
            }
        }

        void copy(LongNumber other, int newSign) {
            sign = newSign;
            size = other.size;
            System.arraycopy(other.limbs, 0, limbs, 0, other.size);
        }

        /** The number, if it is known to be within a long. */
        long toMachine() {
            long value = 0;
            for (int i = size - 1; i >= 0; i--) {
                value = value * BASE + limbs[i];
            }
            return sign < 0 ? -value : value;
        }

        /** Its sign (SIGN), how many digits it has (DIGITS), else its k-th digit. */
        int tell(int k) {
            if (k == SIGN) {
                return sign;
            }
            if (k == DIGITS) {
                return digits();
            }
            return k < 0 || k / DIGITS_A_LIMB >= size
                    ? 0
                    : limbs[k / DIGITS_A_LIMB] / POWERS[k % DIGITS_A_LIMB] % 10;
        }

        private int digits() {
            if (size == 0) {
                return 1;
            }
            int ofHighest = 1;
            while (ofHighest < DIGITS_A_LIMB && limbs[size - 1] >= POWERS[ofHighest]) {
                ofHighest++;
            }
            return (size - 1) * DIGITS_A_LIMB + ofHighest;
        }

        /** Ends the making of a number whose limbs below count are set. */
        void finish(int count, int newSign) {
            size = Math.min(count, LIMBS);
            while (size > 0 && limbs[size - 1] == 0) {
                size--;
            }
            sign = size == 0 ? 0 : newSign;
        }

        private boolean fits() {
            return size <= TOP_LIMB || size == TOP_LIMB + 1 && limbs[TOP_LIMB] < TOO_HIGH;
        }

        /** Becomes x + y, y taken with the sign given, x and y being other objects: false if that is too long. */
        boolean setSum(LongNumber x, LongNumber y, int signOfY) {
            if (signOfY == 0) {
                copy(x, x.sign);
            } else if (x.sign == 0) {
                copy(y, signOfY);
            } else if (x.sign == signOfY) {
                addLimbs(x, y, x.sign);
            } else if (isFarther(x, y)) {
                subtractLimbs(x, y, x.sign);
            } else {
                subtractLimbs(y, x, signOfY);
            }
            return fits();
        }

        /** Becomes x * y, x and y being other objects: false if that is too long. */
        boolean setProduct(LongNumber x, LongNumber y) {
            int count = x.size + y.size;
            if (count > LIMBS) {
                return false;
            }
            Arrays.fill(limbs, 0);
            for (int i = 0; i < x.size; i++) {
                long factor = x.limbs[i];
                long carry = 0;
                for (int j = 0; j < y.size; j++) {
                    carry += limbs[i + j] + factor * y.limbs[j];
                    limbs[i + j] = (int) (carry % BASE);
                    carry /= BASE;
                }
                limbs[i + y.size] = (int) carry;
            }
            finish(count, x.sign * y.sign);
            return fits();
        }

        private static boolean isFarther(LongNumber x, LongNumber y) {
            if (x.size != y.size) {
                return x.size > y.size;
            }
            for (int i = x.size - 1; i >= 0; i--) {
                if (x.limbs[i] != y.limbs[i]) {
                    return x.limbs[i] > y.limbs[i];
                }
            }
            return false;
        }

        private int limb(int i) {
            return i < size ? limbs[i] : 0;
        }

        private void addLimbs(LongNumber x, LongNumber y, int newSign) {
            int count = Math.min(Math.max(x.size, y.size) + 1, LIMBS);
            int carry = 0;
            for (int i = 0; i < count; i++) {
                int sum = x.limb(i) + y.limb(i) + carry;
                carry = sum >= BASE ? 1 : 0;
                limbs[i] = sum - carry * BASE;
            }
            finish(count, newSign);
        }

        /** The lesser one is not farther from 0 than the greater one. */
        private void subtractLimbs(LongNumber greater, LongNumber lesser, int newSign) {
            int borrow = 0;
            for (int i = 0; i < greater.size; i++) {
                int difference = greater.limbs[i] - lesser.limb(i) - borrow;
                borrow = difference < 0 ? 1 : 0;
                limbs[i] = difference + borrow * BASE;
            }
            finish(greater.size, newSign);
        }
    }

    /** Division of long numbers as by hand, limb by limb (Knuth's algorithm D), with rows that are used again. */
    private static final class LongDivision {
        private static final int BASE = LongNumber.BASE;
        // A guess from two limbs by one is at most two too high, three where it is BASE or more.
        private static final int MOST_CORRECTIONS = 4;

        private final int[] dividend = new int[LongNumber.LIMBS + 1];
        private final int[] divisor = new int[LongNumber.LIMBS + 1];
        private int size = 0;

        /** The result, another object than x and y, becomes the rest or the quotient; y is not 0. */
        void divide(LongNumber x, LongNumber y, LongNumber result, boolean wantsRest) {
            size = y.size;
            if (size == 0 || x.size < size) {
                result.copy(x, x.sign);
                if (!wantsRest) {
                    result.setTo(0);
                }
                return;
            }
            // The highest limb of the divisor becomes at least half of BASE, so that the guesses are good.
            int scale = BASE / (y.limbs[size - 1] + 1);
            enlarge(x, scale, dividend);
            enlarge(y, scale, divisor);
            int places = x.size - size + 1;
            for (int place = places - 1; place >= 0; place--) {
                result.limbs[place] = takeAway(guess(place), place);
            }
            if (wantsRest) {
                reduce(scale, result);
                result.finish(size, x.sign);
            } else {
                result.finish(places, x.sign * y.sign);
            }
        }

        private static void enlarge(LongNumber number, int scale, int[] row) {
            long carry = 0;
            for (int i = 0; i < number.size; i++) {
                carry += (long) number.limbs[i] * scale;
                row[i] = (int) (carry % BASE);
                carry /= BASE;
            }
            row[number.size] = (int) carry;
        }

        /** What is left of the dividend goes into the result, no longer enlarged. */
        private void reduce(int scale, LongNumber result) {
            if (scale == 0) {
                return;
            }
            long left = 0;
            for (int i = size - 1; i >= 0; i--) {
                left = left * BASE + dividend[i];
                result.limbs[i] = (int) (left / scale);
                left %= scale;
            }
        }

        /** The limb of the quotient at a place, or one more. */
        private long guess(int place) {
            long highest = divisor[size - 1];
            if (highest == 0) {
                return 0;
            }
            long second = size > 1 ? divisor[size - 2] : 0;
            long third = size > 1 ? dividend[place + size - 2] : 0;
            long head = (long) dividend[place + size] * BASE + dividend[place + size - 1];
            long guessed = head / highest;
            long left = head % highest;
            for (int i = 0; i < MOST_CORRECTIONS && left < BASE; i++) {
                if (guessed < BASE && guessed * second <= left * BASE + third) {
                    return guessed;
                }
                guessed--;
                left += highest;
            }
            return guessed;
        }

        /** Takes the divisor as often as was guessed from the dividend, or once less: how often. */
        private int takeAway(long guessed, int place) {
            long carry = 0;
            for (int i = 0; i < size; i++) {
                carry += guessed * divisor[i];
                int difference = dividend[place + i] - (int) (carry % BASE);
                carry /= BASE;
                if (difference < 0) {
                    difference += BASE;
                    carry++;
                }
                dividend[place + i] = difference;
            }
            boolean tooOften = carry > dividend[place + size];
            if (tooOften) {
                putBack(place);
            }
            return (int) (tooOften ? guessed - 1 : guessed);
        }

        private void putBack(int place) {
            int carry = 0;
            for (int i = 0; i < size; i++) {
                int sum = dividend[place + i] + divisor[i] + carry;
                carry = sum >= BASE ? 1 : 0;
                dividend[place + i] = sum - carry * BASE;
            }
        }
    }
}
