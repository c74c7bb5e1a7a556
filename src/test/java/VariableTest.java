/** Promise 10: variable. */
public final class VariableTest {
    public static void main(String[] args) {
        Check check = new Check();
        arguments(check);
        // The same numbers in a SMALL variable and in one that is not.
        digits(check, "a=%s", true);
        digits(check, "a=%s;[0:a=a+1;a=a-1]", false);
        longOnes(check);
        narrowed(check);
        check.end("VariableTest");
    }

    private static void arguments(Check check) {
        BigRunner none = new BigRunner();
        BigRunner some = Check.ran("a=12;j=-3");
        for (int i : new int[] {-1, 10, Integer.MIN_VALUE, Integer.MAX_VALUE}) {
            for (int k : new int[] {-3, -2, -1, 0, 5}) {
                check.dueThrow("variable(" + i + ", " + k + ")", IndexOutOfBoundsException.class, () -> some.variable(i, k));
            }
        }
        for (int k : new int[] {-3, -4, Integer.MIN_VALUE}) {
            check.dueThrow("variable(0, " + k + ")", IndexOutOfBoundsException.class, () -> some.variable(0, k));
        }
        for (int k : new int[] {-2, -1, 0, 5}) {
            check.dueThrow("no program, k " + k, IndexOutOfBoundsException.class, () -> none.variable(0, k));
        }
        check.due("variable(9, -1)", some.variable(9, -1), -1);
        check.due("variable(9, 0)", some.variable(9, 0), 3);
    }

    private static void digits(Check check, String text, boolean isSmall) {
        String[] numbers = {"0", "1", "-1", "9", "10", "-99", "100", "999999999", "-999999999", "123456789", "-100000000"};
        for (String number : numbers) {
            BigRunner runner = Check.ran(String.format(text, number));
            check.due("small", runner.small(0), isSmall);
            check.due("sign of " + number, runner.variable(0, -1), Integer.signum(Integer.parseInt(number)));
            check.due("digits of " + number, runner.variable(0, -2), number.replace("-", "").length());
            check.due(number, Check.variable(runner, 0), number);
            for (int k : new int[] {9, 10, 18, 119, 120, 200, Integer.MAX_VALUE}) {
                check.due("digit " + k + " of " + number, runner.variable(0, k), 0);
            }
        }
    }

    private static void longOnes(Check check) {
        BigRunner runner = Check.ran("a=999999999*999999999;b=-a;c=a*a*b*b*a*a;c=c*100;d=-c;[0:c=c+1]");
        check.due("a", Check.variable(runner, 0), "999999998000000001");
        check.due("b", Check.variable(runner, 1), "-999999998000000001");
        String c = new java.math.BigInteger("999999999").pow(12).multiply(java.math.BigInteger.valueOf(100)).toString();
        check.due("c", Check.variable(runner, 2), c);
        check.due("d", Check.variable(runner, 3), "-" + c);
        check.due("behind the highest", runner.variable(2, c.length()), 0);
        check.due("the highest", runner.variable(2, c.length() - 1), 9);
    }

    /** A SMALL variable that is assigned from an EXPR that is not. */
    private static void narrowed(Check check) {
        BigRunner runner = Check.ran("a=7;[a-999:a=a];a=a*a*a*a*a*a*a*a*a*a*a*a;b=-a;c=b%999999999;d=c*c");
        check.due("small(2)", runner.small(2), true);
        check.due("small(1)", runner.small(1), false);
        long c = -13841287201L % 999999999L;
        check.due("c", Check.variable(runner, 2), Long.toString(c));
        check.due("d", Check.variable(runner, 3), Long.toString(c * c));
        BigRunner growing = Check.loaded("a=1;[1:a=a*-98765432;b=a%7654321]");
        java.math.BigInteger a = java.math.BigInteger.ONE;
        for (int i = 0; i < 14; i++) {
            growing.run(i == 0 ? 4 : 3);
            a = a.multiply(java.math.BigInteger.valueOf(-98765432));
            check.due("b is SMALL", growing.small(1), true);
            check.due("b", Check.variable(growing, 1), a.remainder(java.math.BigInteger.valueOf(7654321)).toString());
        }
    }
}
