import java.math.BigInteger;

/** NUMBERS: each sentence that names an edge, on both sides of it. */
public final class EdgesOfNumbersTest {
    private static final BigInteger FARTHEST = ten(120).subtract(BigInteger.ONE);

    public static void main(String[] args) {
        Check check = new Check();
        longest(check);
        sums(check);
        differences(check);
        products(check);
        productsOfAllLengths(check);
        carries(check);
        onTheWay(check);
        quotients(check);
        rests(check);
        divisionsOfLongOnes(check);
        divisionsAtTheLimit(check);
        variablesAtFirst(check);
        check.end("EdgesOfNumbersTest");
    }

    private static BigInteger ten(int power) {
        return BigInteger.TEN.pow(power);
    }

    private static void dueOutput(Check check, BigInteger b, String expr, BigInteger want) {
        BigRunner runner = Check.withB(b, "!" + expr);
        String what = expr + " with b = " + b;
        check.due("the step of " + what, runner.run(1), 1);
        check.due(what, Check.output(runner, 0), want.toString());
    }

    private static void dueTrap(Check check, BigInteger b, String expr) {
        BigRunner runner = Check.withB(b, "!" + expr);
        String what = expr + " with b = " + b;
        check.dueThrow(what, UnsupportedOperationException.class, () -> runner.run(1));
        check.due("trap of " + what, runner.look(1), 2);
        check.due("outputs after " + what, runner.look(5), 0);
    }

    private static void longest(Check check) {
        check.sentence("NUMBERS are whole, with at most 120 decimal digits");
        for (BigInteger b : new BigInteger[] {FARTHEST, FARTHEST.negate(), ten(119), ten(119).negate()}) {
            BigRunner runner = Check.withB(b, "c=-b;d=b");
            check.due("the steps", runner.run(200), 2);
            check.due("b", Check.variable(runner, 1), b.toString());
            check.due("the digits of c", runner.variable(2, -2), 120);
            check.due("d", Check.variable(runner, 3), b.toString());
            dueOutput(check, b, "b", b);
            dueOutput(check, b, "-b", b.negate());
        }
    }

    private static void sums(Check check) {
        check.sentence("at most 120 decimal digits (+)");
        BigInteger half = ten(119).multiply(BigInteger.valueOf(5));
        dueOutput(check, FARTHEST, "b+0", FARTHEST);
        dueTrap(check, FARTHEST, "b+1");
        dueTrap(check, FARTHEST, "1+b");
        dueTrap(check, FARTHEST, "b+b");
        dueOutput(check, FARTHEST.subtract(BigInteger.ONE), "b+1", FARTHEST);
        dueTrap(check, FARTHEST.subtract(BigInteger.ONE), "b+2");
        dueOutput(check, half, "b+(b-1)", FARTHEST);
        dueTrap(check, half, "b+b");
        dueOutput(check, FARTHEST.negate(), "b+0", FARTHEST.negate());
        dueTrap(check, FARTHEST.negate(), "b+-1");
        dueTrap(check, FARTHEST.negate(), "-1+b");
        dueTrap(check, FARTHEST.negate(), "b+b");
        dueOutput(check, half.negate(), "b+(b+1)", FARTHEST.negate());
        dueTrap(check, half.negate(), "b+b");
        dueOutput(check, FARTHEST, "b+-1", FARTHEST.subtract(BigInteger.ONE));
        dueOutput(check, FARTHEST, "b+-b", BigInteger.ZERO);
    }

    private static void differences(Check check) {
        check.sentence("at most 120 decimal digits (-)");
        BigInteger half = ten(119).multiply(BigInteger.valueOf(5));
        dueOutput(check, FARTHEST, "b-0", FARTHEST);
        dueTrap(check, FARTHEST, "b--1");
        dueOutput(check, FARTHEST, "0-b", FARTHEST.negate());
        dueTrap(check, FARTHEST, "-1-b");
        dueOutput(check, FARTHEST, "1-b", BigInteger.ONE.subtract(FARTHEST));
        dueTrap(check, FARTHEST.negate(), "b-1");
        dueTrap(check, FARTHEST.negate(), "1-b");
        dueOutput(check, half, "b-(1-b)", FARTHEST);
        dueTrap(check, half, "b-(0-b)");
        dueOutput(check, half, "1-b-b", FARTHEST.negate());
        dueTrap(check, half, "0-b-b");
        dueOutput(check, FARTHEST, "b-b", BigInteger.ZERO);
        dueOutput(check, ten(119), "b-1", ten(119).subtract(BigInteger.ONE));
    }

    private static void products(Check check) {
        check.sentence("at most 120 decimal digits (*)");
        BigInteger half = ten(119).multiply(BigInteger.valueOf(5));
        dueOutput(check, FARTHEST, "b*1", FARTHEST);
        dueOutput(check, FARTHEST, "b*-1", FARTHEST.negate());
        dueOutput(check, FARTHEST, "b*0", BigInteger.ZERO);
        dueTrap(check, FARTHEST, "b*2");
        dueTrap(check, FARTHEST, "-2*b");
        dueTrap(check, FARTHEST, "b*b");
        dueTrap(check, FARTHEST, "b*-b");
        dueOutput(check, half.subtract(BigInteger.ONE), "b*2", FARTHEST.subtract(BigInteger.ONE));
        dueTrap(check, half, "b*2");
        dueTrap(check, half, "b*-2");
        dueOutput(check, ten(60), "(b-1)*(b+1)", FARTHEST);
        dueOutput(check, ten(60), "(1-b)*(b+1)", FARTHEST.negate());
        dueTrap(check, ten(60), "b*b");
        dueTrap(check, ten(60), "b*-b");
        dueOutput(check, ten(60), "b*(b-1)", ten(120).subtract(ten(60)));
    }

    /** Powers of ten whose product has 120 digits, and 121, however they are shared out. */
    private static void productsOfAllLengths(Check check) {
        check.sentence("at most 120 decimal digits (*, of numbers of all lengths)");
        for (int power = 0; power <= 119; power++) {
            BigRunner runner = Check.loaded("e=1;g=1;?a;[a:e=e*10;a=a-1];?a;[a:g=g*10;a=a-1];!e*g;!e*(g*10)");
            runner.give(power);
            runner.give(119 - power);
            int steps = 2 + 2 + 2 + 3 * 119 + 1;
            check.due("steps", runner.run(200) + runner.run(steps - 200), steps);
            check.due("10 to the " + power + " times the other", Check.output(runner, 0), ten(119).toString());
            check.dueThrow("10 times that", UnsupportedOperationException.class, () -> runner.run(1));
            check.due("trap", runner.look(1), 2);
        }
    }

    private static void carries(Check check) {
        check.sentence("NUMBERS are whole (next to every power of ten)");
        for (int power = 0; power <= 119; power++) {
            BigInteger b = ten(power);
            for (BigInteger value : new BigInteger[] {b, b.negate()}) {
                dueOutput(check, value, "b-1", value.subtract(BigInteger.ONE));
                dueOutput(check, value, "b+1", value.add(BigInteger.ONE));
                dueOutput(check, value, "(b-1)+1", value);
                dueOutput(check, value, "(b+1)-1", value);
                dueOutput(check, value, "(b-1)-b", BigInteger.ONE.negate());
                dueOutput(check, value, "b-(b-1)", BigInteger.ONE);
                dueOutput(check, value, "b*7/7", value);
            }
        }
    }

    private static void onTheWay(Check check) {
        check.sentence("2 when a number would have more than 120 digits (on the way, too)");
        BigInteger half = ten(119).multiply(BigInteger.valueOf(5));
        dueTrap(check, half, "b*2/2");
        dueTrap(check, half, "b+b-b");
        dueTrap(check, half, "(b+b)*0");
        dueTrap(check, half, "1-(b+b)%7");
        dueTrap(check, half, "-(b+b)");
        dueOutput(check, half, "b/2*2", half);
        dueOutput(check, half, "b-b+b", half);
        dueOutput(check, half, "b+(b-b)", half);
    }

    private static BigRunner divided(boolean wide, int x, int y) {
        // The LOOP is never entered, but makes the intervals of a and b UNBOUNDED.
        return Check.ran(wide ? "?a;?b;[c:a=a*a*a;b=b*b*b];!a/b;!a%b" : "?a;?b;!a/b;!a%b", x, y);
    }

    private static void quotients(Check check) {
        check.sentence("x / y is the quotient without rest (towards 0)");
        int[][] rows = {
            {7, 2, 3}, {-7, 2, -3}, {7, -2, -3}, {-7, -2, 3}, {6, 2, 3}, {-6, 2, -3}, {6, -2, -3}, {-6, -2, 3}, {1, 2, 0}, {-1, 2, 0},
            {1, -2, 0}, {-1, -2, 0}, {2, 2, 1}, {-2, 2, -1}, {2, -2, -1}, {-2, -2, 1}, {0, 5, 0}, {0, -5, 0}, {5, 1, 5}, {5, -1, -5},
            {-5, 1, -5}, {-5, -1, 5}, {999999999, 1000000000, 0}, {1000000000, 1000000000, 1}, {1000000000, 999999999, 1},
            {-1000000000, -1, 1000000000}, {-999999999, 1000000000, 0}, {1000000000, -1000000000, -1}, {1000000000, 3, 333333333},
        };
        for (int[] row : rows) {
            for (boolean wide : new boolean[] {false, true}) {
                BigRunner runner = divided(wide, row[0], row[1]);
                check.due("a is SMALL", runner.small(0), !wide);
                check.due(row[0] + " / " + row[1], Check.output(runner, 0), Integer.toString(row[2]));
            }
        }
    }

    private static void rests(Check check) {
        check.sentence("x % y the rest, with the sign of x");
        int[][] rows = {
            {7, 2, 1}, {-7, 2, -1}, {7, -2, 1}, {-7, -2, -1}, {6, 2, 0}, {-6, 2, 0}, {6, -2, 0}, {-6, -2, 0}, {1, 2, 1}, {-1, 2, -1},
            {1, -2, 1}, {-1, -2, -1}, {2, 2, 0}, {-2, 2, 0}, {0, 5, 0}, {0, -5, 0}, {5, 1, 0}, {-5, 1, 0}, {5, -1, 0}, {-5, -1, 0},
            {999999999, 1000000000, 999999999}, {-999999999, 1000000000, -999999999}, {1000000000, 1000000000, 0},
            {1000000000, 999999999, 1}, {-1000000000, 999999999, -1}, {1000000000, -7, 6}, {-1000000000, 7, -6},
        };
        for (int[] row : rows) {
            for (boolean wide : new boolean[] {false, true}) {
                BigRunner runner = divided(wide, row[0], row[1]);
                check.due(row[0] + " % " + row[1], Check.output(runner, 1), Integer.toString(row[2]));
                check.due("its sign", runner.output(1, -1), Integer.signum(row[2]));
            }
        }
    }

    private static void divisionsOfLongOnes(Check check) {
        check.sentence("x / y towards 0, x % y with the sign of x (of 120 digits)");
        BigInteger one = BigInteger.ONE;
        dueOutput(check, FARTHEST, "b/b", one);
        dueOutput(check, FARTHEST, "b%b", BigInteger.ZERO);
        dueOutput(check, FARTHEST, "b/-b", one.negate());
        dueOutput(check, FARTHEST, "(b-1)/b", BigInteger.ZERO);
        dueOutput(check, FARTHEST, "(b-1)%b", FARTHEST.subtract(one));
        dueOutput(check, FARTHEST, "(1-b)/b", BigInteger.ZERO);
        dueOutput(check, FARTHEST, "(1-b)%b", one.subtract(FARTHEST));
        dueOutput(check, FARTHEST, "b/(b-1)", one);
        dueOutput(check, FARTHEST, "b%(b-1)", one);
        dueOutput(check, FARTHEST, "b/1", FARTHEST);
        dueOutput(check, FARTHEST, "b/-1", FARTHEST.negate());
        dueOutput(check, FARTHEST, "b%-1", BigInteger.ZERO);
        dueOutput(check, FARTHEST, "b/f", FARTHEST.divide(ten(9)));
        dueOutput(check, FARTHEST, "-b%f", ten(9).subtract(one).negate());
        dueOutput(check, FARTHEST, "-b/2", FARTHEST.shiftRight(1).negate());
        dueOutput(check, FARTHEST, "-b%2", one.negate());
        dueOutput(check, ten(119), "b/(b/10)", BigInteger.TEN);
        dueOutput(check, ten(119), "1/b", BigInteger.ZERO);
        dueOutput(check, ten(119), "-1%b", one.negate());
    }

    private static void divisionsAtTheLimit(Check check) {
        check.sentence("x / y towards 0, x % y with the sign of x (of machine numbers at LIMIT)");
        String limit = "b=32768*32768;a=b*b;c=-a;";
        String[][] rows = {
            {"c/-1", "1152921504606846976"}, {"a/-1", "-1152921504606846976"}, {"c%-1", "0"}, {"a/c", "-1"}, {"c/a", "-1"}, {"c/c", "1"},
            {"a%c", "0"}, {"c%7", "-1"}, {"a%7", "1"}, {"a%-7", "1"}, {"c/7", "-164703072086692425"}, {"(a-1)/a", "0"},
            {"(a-1)%a", "1152921504606846975"}, {"(c+1)%a", "-1152921504606846975"},
        };
        for (String[] row : rows) {
            BigRunner runner = Check.ran(limit + "!" + row[0]);
            check.due(row[0], Check.output(runner, 0), row[1]);
            check.due("LONG operations of " + row[0], runner.look(4), 0);
        }
    }

    private static void variablesAtFirst(Check check) {
        check.sentence("All variables are 0 at first");
        BigRunner runner = Check.withB(FARTHEST, "d=7;e=b;g=b%9;h=-b;i=d;j=b;?a");
        runner.give(-5);
        runner.run(200);
        for (int turn = 0; turn < 2; turn++) {
            // In the first turn all are SMALL, in the second none is.
            String sums = "[a:a=a+1;b=a;c=a;d=a;e=a;f=a;g=a;h=a;i=a;j=a];!a+b+c+d+e+f+g+h+i+j";
            Check.typeAll(runner, turn == 0 ? "!a;!b;!c;!d;!e;!f;!g;!h;!i;!j" : sums);
            runner.load();
            for (int i = 0; i < 10; i++) {
                check.due("variable " + i, Check.variable(runner, i), "0");
                check.due("its sign", runner.variable(i, -1), 0);
                check.due("it is SMALL", runner.small(i), turn == 0);
            }
            runner.run(200);
            for (int i = 0; i < runner.look(5); i++) {
                check.due("output " + i, Check.output(runner, i), "0");
            }
        }
    }
}
