import java.math.BigInteger;
import java.util.ArrayList;
import java.util.List;

/**
 * A second BigRunner, slow and written in another way: the text becomes a tree, all numbers are
 * BigIntegers, and every run begins anew and goes as far as the steps allow.
 */
final class Model {
    private static final BigInteger LIMIT = BigInteger.TWO.pow(60);
    private static final BigInteger TOO_LONG = BigInteger.TEN.pow(120);

    /** An EXPR: a number, a name, or an operation with its parts; '~' is the - of a FACTOR, '(' an EXPR in ( ). */
    private static final class Tree {
        char kind;
        int number;
        Tree x;
        Tree y;
    }

    private static final class Line {
        char kind;
        int name;
        Tree expr;
        List<Line> first;
        List<Line> second;
    }

    /** Bounds, null being UNBOUNDED. */
    private record Range(BigInteger least, BigInteger greatest) {
        boolean isBounded() {
            return least != null && greatest != null;
        }

        boolean isZero() {
            return isBounded() && least.signum() == 0 && greatest.signum() == 0;
        }

        BigInteger farthest() {
            return isBounded() ? least.abs().max(greatest.abs()) : null;
        }
    }

    /** The run stops here: 1 under way, 2 WAITS, 4 trapped. */
    private static final class Stop extends RuntimeException {
        private static final long serialVersionUID = 1;
        final int state;

        Stop(int state) {
            super(null, null, false, false);
            this.state = state;
        }
    }

    private final String text;
    private int at;
    private final List<Line> program;
    final int rounds;
    private final Range[] ranges = new Range[10];

    final BigInteger[] variables = new BigInteger[10];
    final List<BigInteger> outputs = new ArrayList<>();
    int state = 1;
    int trap;
    int steps;
    int machine;
    int wide;
    int taken;
    private List<Integer> inputs = new ArrayList<>();
    private int budget;

    Model(String text) {
        this.text = text;
        program = readProgram();
        if (at != text.length() || height(program) > 10) {
            throw new IllegalArgumentException();
        }
        rounds = findRanges();
        goTo(0, inputs);
    }

    // Reading.

    private char peek() {
        return at < text.length() ? text.charAt(at) : 0;
    }

    private char next() {
        char c = peek();
        at++;
        return c;
    }

    private void want(char c) {
        if (next() != c) {
            throw new IllegalArgumentException();
        }
    }

    private int readName() {
        int name = "abcdefghij".indexOf(next());
        if (name < 0) {
            throw new IllegalArgumentException();
        }
        return name;
    }

    private List<Line> readProgram() {
        List<Line> lines = new ArrayList<>();
        lines.add(readLine());
        while (peek() == ';') {
            next();
            lines.add(readLine());
        }
        return lines;
    }

    private Line readLine() {
        Line line = new Line();
        line.kind = peek();
        if ("?![{".indexOf(line.kind) < 0) {
            line.kind = '=';
            line.name = readName();
            want('=');
            line.expr = readExpr();
            return line;
        }
        next();
        if (line.kind == '?') {
            line.name = readName();
            return line;
        }
        line.expr = readExpr();
        if (line.kind == '[') {
            want(':');
            line.first = readProgram();
            want(']');
        } else if (line.kind == '{') {
            want(':');
            line.first = readProgram();
            want('|');
            line.second = readProgram();
            want('}');
        }
        return line;
    }

    private Tree readExpr() {
        return readChain("+-");
    }

    private Tree readChain(String signs) {
        boolean isExpr = signs.equals("+-");
        Tree tree = isExpr ? readChain("*/%") : readFactor();
        while (peek() != 0 && signs.indexOf(peek()) >= 0) {
            Tree whole = new Tree();
            whole.kind = next();
            whole.x = tree;
            whole.y = isExpr ? readChain("*/%") : readFactor();
            tree = whole;
        }
        return tree;
    }

    private Tree readFactor() {
        Tree tree = new Tree();
        char c = peek();
        if (c == '-') {
            next();
            tree.kind = '~';
            tree.x = readFactor();
        } else if (c == '(') {
            next();
            tree.kind = '(';
            tree.x = readExpr();
            want(')');
        } else if (c >= '0' && c <= '9') {
            StringBuilder digits = new StringBuilder();
            while (peek() >= '0' && peek() <= '9') {
                digits.append(next());
            }
            if (digits.length() > 9) {
                throw new IllegalArgumentException();
            }
            tree.kind = '0';
            tree.number = Integer.parseInt(digits.toString());
        } else {
            tree.kind = 'a';
            tree.number = readName();
        }
        return tree;
    }

    private static int height(List<Line> lines) {
        if (lines == null) {
            return 0;
        }
        int height = 0;
        for (Line line : lines) {
            height = Math.max(height, Math.max(height(line.expr), Math.max(height(line.first), height(line.second))));
        }
        return height + 1;
    }

    private static int height(Tree tree) {
        if (tree == null) {
            return 0;
        }
        int height = Math.max(height(tree.x), height(tree.y));
        return tree.kind == '~' || tree.kind == '(' ? height + 1 : height;
    }

    // Intervals.

    private int findRanges() {
        for (int i = 0; i < 10; i++) {
            ranges[i] = new Range(BigInteger.ZERO, BigInteger.ZERO);
        }
        int round = 1;
        while (makeRound(program, round)) {
            round++;
        }
        return round;
    }

    private boolean makeRound(List<Line> lines, int round) {
        boolean moved = false;
        for (Line line : lines) {
            if (line.kind == '?') {
                moved |= join(line.name, new Range(BigInteger.valueOf(-1000000000), BigInteger.valueOf(1000000000)), round);
            }
            if (line.kind == '=') {
                moved |= join(line.name, range(line.expr), round);
            }
            if (line.first != null) {
                moved |= makeRound(line.first, round);
            }
            if (line.second != null) {
                moved |= makeRound(line.second, round);
            }
        }
        return moved;
    }

    private boolean join(int name, Range added, int round) {
        Range old = ranges[name];
        boolean down = old.least != null && (added.least == null || added.least.compareTo(old.least) < 0);
        boolean up = old.greatest != null && (added.greatest == null || added.greatest.compareTo(old.greatest) > 0);
        ranges[name] = new Range(down ? (round > 3 ? null : added.least) : old.least,
                up ? (round > 3 ? null : added.greatest) : old.greatest);
        return down || up;
    }

    private static BigInteger cut(BigInteger bound) {
        return bound == null || bound.abs().compareTo(LIMIT) > 0 ? null : bound;
    }

    private static BigInteger negated(BigInteger bound) {
        return bound == null ? null : bound.negate();
    }

    private static BigInteger added(BigInteger x, BigInteger y) {
        return x == null || y == null ? null : cut(x.add(y));
    }

    private Range range(Tree tree) {
        switch (tree.kind) {
            case '0':
                return new Range(BigInteger.valueOf(tree.number), BigInteger.valueOf(tree.number));
            case 'a':
                return ranges[tree.number];
            case '(':
                return range(tree.x);
            case '~':
                return new Range(negated(range(tree.x).greatest), negated(range(tree.x).least));
            default:
                return range(tree.kind, range(tree.x), range(tree.y));
        }
    }

    private static Range range(char kind, Range x, Range y) {
        if (kind == '+') {
            return new Range(added(x.least, y.least), added(x.greatest, y.greatest));
        }
        if (kind == '-') {
            return range('+', x, new Range(negated(y.greatest), negated(y.least)));
        }
        if (kind == '*') {
            return productRange(x, y);
        }
        BigInteger m = x.farthest();
        if (kind == '/') {
            return new Range(negated(m), m);
        }
        if (y.isBounded()) {
            BigInteger most = y.farthest().subtract(BigInteger.ONE).max(BigInteger.ZERO);
            m = m == null ? most : m.min(most);
        }
        boolean notBelow0 = x.least != null && x.least.signum() >= 0;
        return new Range(notBelow0 ? BigInteger.ZERO : negated(m), m);
    }

    private static Range productRange(Range x, Range y) {
        if (x.isZero() || y.isZero()) {
            return new Range(BigInteger.ZERO, BigInteger.ZERO);
        }
        if (!x.isBounded() || !y.isBounded()) {
            return new Range(null, null);
        }
        BigInteger least = null;
        BigInteger greatest = null;
        for (BigInteger a : new BigInteger[] {x.least, x.greatest}) {
            for (BigInteger b : new BigInteger[] {y.least, y.greatest}) {
                BigInteger product = a.multiply(b);
                least = least == null ? product : least.min(product);
                greatest = greatest == null ? product : greatest.max(product);
            }
        }
        return new Range(cut(least), cut(greatest));
    }

    private boolean isSmall(Tree tree) {
        return tree == null || range(tree).isBounded() && isSmall(tree.x) && isSmall(tree.y);
    }

    String bounds(int variable) {
        Range range = ranges[variable];
        return (range.least == null ? "U" : range.least) + ".." + (range.greatest == null ? "U" : range.greatest);
    }

    // Running.

    /** Begins anew and makes at most so many steps with the numbers that were given. */
    void goTo(int most, List<Integer> given) {
        inputs = given;
        budget = most;
        state = 1;
        trap = 0;
        steps = 0;
        machine = 0;
        wide = 0;
        taken = 0;
        outputs.clear();
        java.util.Arrays.fill(variables, BigInteger.ZERO);
        try {
            make(program);
            state = 3;
        } catch (Stop stop) {
            state = stop.state;
        }
    }

    private Stop trapped(int by) {
        trap = by;
        return new Stop(4);
    }

    private void count(Line line) {
        boolean lacks = line.kind == '?' && taken == inputs.size();
        if (steps == budget) {
            throw new Stop(lacks ? 2 : 1);
        }
        if (steps == 3000) {
            throw trapped(3);
        }
        if (lacks) {
            throw new Stop(2);
        }
        steps++;
    }

    private void make(List<Line> lines) {
        for (Line line : lines) {
            make(line);
        }
    }

    private void make(Line line) {
        count(line);
        switch (line.kind) {
            case '?':
                variables[line.name] = BigInteger.valueOf(inputs.get(taken));
                taken++;
                break;
            case '=':
                variables[line.name] = value(line.expr);
                break;
            case '!':
                outputs.add(value(line.expr));
                break;
            case '{':
                make(value(line.expr).signum() > 0 ? line.first : line.second);
                break;
            default:
                while (value(line.expr).signum() > 0) {
                    make(line.first);
                    count(line);
                }
                break;
        }
    }

    private BigInteger value(Tree tree) {
        if (tree.kind == '0') {
            return BigInteger.valueOf(tree.number);
        }
        if (tree.kind == 'a') {
            return variables[tree.number];
        }
        if (tree.kind == '(') {
            return value(tree.x);
        }
        BigInteger x = value(tree.x);
        BigInteger y = tree.y == null ? null : value(tree.y);
        if (isSmall(tree)) {
            machine++;
        } else {
            wide++;
        }
        BigInteger result = operate(tree.kind, x, y);
        if (result.abs().compareTo(TOO_LONG) >= 0) {
            throw trapped(2);
        }
        return result;
    }

    private BigInteger operate(char kind, BigInteger x, BigInteger y) {
        switch (kind) {
            case '~':
                return x.negate();
            case '+':
                return x.add(y);
            case '-':
                return x.subtract(y);
            case '*':
                return x.multiply(y);
            default:
                if (y.signum() == 0) {
                    throw trapped(1);
                }
                return kind == '/' ? x.divide(y) : x.remainder(y);
        }
    }

    /** The same text as Check.everything, for an object to which the numbers were given. */
    String everything() {
        StringBuilder told = new StringBuilder();
        int[] looks = {state, trap, steps, machine, wide, outputs.size(), inputs.size() - taken};
        for (int look : looks) {
            told.append(look).append(' ');
        }
        for (int i = 0; i < 10; i++) {
            told.append(variables[i]).append(' ').append(bounds(i)).append(' ');
        }
        for (int i = 0; i < Math.min(12, outputs.size()); i++) {
            told.append(outputs.get(i)).append(' ');
        }
        return told.toString();
    }
}
