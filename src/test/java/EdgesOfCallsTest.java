import java.math.BigInteger;

/** Promises 4 to 11: each sentence that names an edge of a call, on both sides of it. */
public final class EdgesOfCallsTest {
    private static final int LEAST = Integer.MIN_VALUE;
    private static final int GREATEST = Integer.MAX_VALUE;

    public static void main(String[] args) {
        Check check = new Check();
        loadAtTheBeginning(check);
        loadKeepsInputs(check);
        loadRefused(check);
        giveNumbers(check);
        giveTwenty(check);
        giveAround(check);
        giveInEveryState(check);
        runWithoutProgram(check);
        runArguments(check);
        runAtMostN(check);
        runTrapped(check);
        lookStates(check);
        lookTraps(check);
        lookCounts(check);
        lookOutputs(check);
        lookInputs(check);
        lookOthers(check);
        boundArguments(check);
        boundUnbounded(check);
        smallArguments(check);
        variableArguments(check);
        variableDigits(check);
        variableBehindTheHighest(check);
        outputArguments(check);
        outputKept(check);
        outputDigits(check);
        nothingChanges(check);
        check.end("EdgesOfCallsTest");
    }

    /** One object in each state that look(0) tells. */
    private static BigRunner[] inEveryState() {
        return new BigRunner[] {
            new BigRunner(), Check.loaded("a=4;!a;[1:a=a+1]"), Check.ran("a=4;!a;?b"), Check.ran("a=4;!a"), Check.ran("a=4;!a;!1/0"),
        };
    }

    // Promise 4.

    private static void loadAtTheBeginning(Check check) {
        check.sentence("The line becomes the program, at its beginning, all variables 0, without outputs");
        BigRunner[] runners = inEveryState();
        for (int state = 0; state < runners.length; state++) {
            BigRunner runner = runners[state];
            check.due("the state", runner.look(0), state);
            Check.typeAll(runner, "b=7;!b;!a");
            check.due("the rounds", runner.load(), 2);
            for (int what = 1; what <= 6; what++) {
                check.due("look(" + what + ") after state " + state, runner.look(what), 0);
            }
            check.due("under way after state " + state, runner.look(0), 1);
            for (int i = 0; i < 10; i++) {
                check.due("variable " + i + " after state " + state, Check.variable(runner, i), "0");
            }
            check.dueThrow("output(0, 0) after state " + state, IndexOutOfBoundsException.class, () -> runner.output(0, 0));
            check.due("run after state " + state, runner.run(200), 3);
            check.due("output 0 after state " + state, Check.output(runner, 0), "7");
            check.due("output 1 after state " + state, Check.output(runner, 1), "0");
            check.due("outputs after state " + state, runner.look(5), 2);
        }
        BigRunner twice = Check.loaded("a=a+1;!a");
        twice.run(1);
        Check.typeAll(twice, "a=a+1;!a");
        twice.load();
        twice.run(200);
        check.due("the same program again", Check.output(twice, 0), "1");
    }

    private static void loadKeepsInputs(Check check) {
        check.sentence("inputs stay");
        for (int count = 0; count <= 20; count += 10) {
            BigRunner runner = new BigRunner();
            for (int i = 0; i < count; i++) {
                runner.give(100 + i);
            }
            Check.typeAll(runner, "[1:?a;!a]");
            runner.load();
            check.due("how many wait", runner.look(6), count);
            Check.typeAll(runner, "[1:?a;!a]");
            runner.load();
            check.due("how many wait after another load", runner.look(6), count);
            check.due("give", runner.give(999), count < 20);
            runner.run(2);
            check.due("the first one", Check.variable(runner, 0), Integer.toString(count == 0 ? 999 : 100));
        }
    }

    private static void loadRefused(Check check) {
        check.sentence("IllegalArgumentException: it is no PROGRAM; what throws changes nothing");
        BigRunner[] runners = inEveryState();
        for (int state = 0; state < runners.length; state++) {
            BigRunner runner = runners[state];
            runner.give(8);
            runner.give(9);
            String before = Check.everything(runner);
            for (String text : new String[] {"", "c=5;[c:?d;c=c*c*c];{c:c=1|c=2", "};e=", "1;f=(", "7"}) {
                Check.typeAll(runner, text);
                check.dueThrow("load of .." + text, IllegalArgumentException.class, runner::load);
                check.due("all else in state " + state, Check.everything(runner), before);
            }
            check.due("the line made whole", runner.type(')') && runner.load() > 0, true);
        }
        BigRunner going = Check.loaded("a=2;[a:b=b*3+1;a=a-1];!b");
        going.run(2);
        Check.typeAll(going, "!9;!9;!9;!9;!9;");
        check.dueThrow("load on the way", IllegalArgumentException.class, going::load);
        check.due("the steps that are left", going.run(200), 7);
        check.due("the output", Check.output(going, 0), "4");
    }

    // Promise 5.

    private static void giveNumbers(Check check) {
        check.sentence("false (refused) if it is not from -1000000000 to 1000000000");
        int[] numbers = {-1000000001, -1000000000, 1000000000, 1000000001, LEAST, GREATEST, 0, -1, 1, -999999999, 999999999};
        boolean[] taken = {false, true, true, false, false, false, true, true, true, true, true};
        for (int i = 0; i < numbers.length; i++) {
            BigRunner runner = Check.loaded("?a");
            check.due("give(" + numbers[i] + ")", runner.give(numbers[i]), taken[i]);
            check.due("how many wait", runner.look(6), taken[i] ? 1 : 0);
            check.due("run", runner.run(1), taken[i] ? 1 : 0);
            check.due("a", Check.variable(runner, 0), taken[i] ? Integer.toString(numbers[i]) : "0");
        }
    }

    private static void giveTwenty(Check check) {
        check.sentence("false (refused) if twenty wait");
        BigRunner runner = Check.loaded("[1:?a]");
        for (int i = 1; i <= 20; i++) {
            check.due("give " + i, runner.give(i), true);
            check.due("how many wait", runner.look(6), i);
        }
        check.due("give 21", runner.give(21), false);
        check.due("give a number that is too great", runner.give(1000000001), false);
        check.due("how many wait", runner.look(6), 20);
        runner.run(2);
        check.due("the first one", Check.variable(runner, 0), "1");
        check.due("how many wait", runner.look(6), 19);
        check.due("give 22", runner.give(22), true);
        check.due("give 23", runner.give(23), false);
        for (int i = 2; i <= 20; i++) {
            runner.run(2);
            check.due("number " + i, Check.variable(runner, 0), Integer.toString(i));
        }
        runner.run(2);
        check.due("the last one", Check.variable(runner, 0), "22");
        check.due("none waits", runner.look(6), 0);
    }

    private static void giveAround(Check check) {
        check.sentence("Puts a number behind the inputs that wait (however many there were before)");
        for (int before = 0; before <= 41; before++) {
            BigRunner runner = Check.loaded("[1:?a]");
            for (int i = 0; i < before; i++) {
                runner.give(-i);
                runner.run(2);
            }
            for (int i = 1; i <= 20; i++) {
                runner.give(i);
            }
            check.due("give 21 after " + before, runner.give(21), false);
            for (int i = 1; i <= 20; i++) {
                runner.run(2);
                check.due("number " + i + " after " + before, Check.variable(runner, 0), Integer.toString(i));
            }
        }
    }

    private static void giveInEveryState(Check check) {
        check.sentence("Puts a number behind the inputs that wait: true (whatever the program does)");
        BigRunner[] runners = inEveryState();
        for (int state = 0; state < runners.length; state++) {
            int due = state == 2 ? 1 : state;
            check.due("give in state " + state, runners[state].give(6), true);
            check.due("how many wait", runners[state].look(6), 1);
            check.due("the state then", runners[state].look(0), due);
        }
    }

    // Promise 6.

    private static void runWithoutProgram(Check check) {
        check.sentence("IllegalStateException: there is no program, or it has ended or was trapped before");
        for (int n : new int[] {1, 200, 0, 201, -1, LEAST, GREATEST}) {
            BigRunner[] runners = inEveryState();
            for (int state : new int[] {0, 3, 4}) {
                String before = Check.everything(runners[state]);
                check.dueThrow("run(" + n + ") in state " + state, IllegalStateException.class, () -> runners[state].run(n));
                check.due("all after run(" + n + ")", Check.everything(runners[state]), before);
            }
        }
        BigRunner two = Check.withB(BigInteger.TEN.pow(119), "!b*10");
        check.dueThrow("the trap by 2", UnsupportedOperationException.class, () -> two.run(1));
        check.dueThrow("run(1) after a trap by 2", IllegalStateException.class, () -> two.run(1));
        check.dueThrow("run(0) after a trap by 2", IllegalStateException.class, () -> two.run(0));
    }

    private static void runArguments(Check check) {
        check.sentence("else IllegalArgumentException: n is not 1 .. 200");
        for (int n : new int[] {0, 201, -1, 202, -200, LEAST, GREATEST}) {
            BigRunner[] wrong = inEveryState();
            for (int state : new int[] {1, 2}) {
                String before = Check.everything(wrong[state]);
                check.dueThrow("run(" + n + ") in state " + state, IllegalArgumentException.class, () -> wrong[state].run(n));
                check.due("all after run(" + n + ")", Check.everything(wrong[state]), before);
            }
        }
        BigRunner[] runners = inEveryState();
        check.due("run(1)", runners[1].run(1), 1);
        check.due("run(2)", runners[1].run(2), 2);
        check.due("run(199)", runners[1].run(199), 199);
        check.due("run(200)", runners[1].run(200), 200);
        check.due("run(1) while it WAITS", runners[2].run(1), 0);
        check.due("run(200) while it WAITS", runners[2].run(200), 0);
    }

    private static void runAtMostN(Check check) {
        check.sentence("Makes at most n steps: how many");
        for (int n = 1; n <= 5; n++) {
            BigRunner runner = Check.loaded("a=1;a=2;a=3");
            check.due("run(" + n + ") of 3 steps", runner.run(n), Math.min(n, 3));
            check.due("a", Check.variable(runner, 0), Integer.toString(Math.min(n, 3)));
            check.due("the state", runner.look(0), n < 3 ? 1 : 3);
            BigRunner waits = Check.loaded("a=1;a=2;?a;a=4");
            check.due("run(" + n + ") up to an INPUT", waits.run(n), Math.min(n, 2));
            check.due("the state", waits.look(0), n < 2 ? 1 : 2);
        }
    }

    private static void runTrapped(Check check) {
        check.sentence("If it is trapped in this call by 1: ArithmeticException; by 2 or 3: UnsupportedOperationException");
        for (int n : new int[] {1, 2, 200}) {
            BigRunner one = Check.loaded("a=1;!1/0");
            one.run(1);
            check.dueThrow("by 1, run(" + n + ")", ArithmeticException.class, () -> one.run(n));
            BigRunner two = Check.withB(BigInteger.TEN.pow(119), "!b*10");
            check.dueThrow("by 2, run(" + n + ")", UnsupportedOperationException.class, () -> two.run(n));
            BigRunner three = Check.loaded("[1:a=1]");
            for (int i = 0; i < 15; i++) {
                three.run(200);
            }
            check.dueThrow("by 3, run(" + n + ")", UnsupportedOperationException.class, () -> three.run(n));
        }
        BigRunner before = Check.loaded("a=1;!a;!1/0");
        check.due("the step just before the trap", before.run(2), 2);
        check.due("not trapped yet", before.look(0), 1);
        BigRunner with = Check.loaded("a=1;!a;!1/0");
        check.dueThrow("the trap in the third step", ArithmeticException.class, () -> with.run(3));
        check.due("the steps before are made", Check.output(with, 0), "1");
    }

    // Promise 7.

    private static void lookStates(Check check) {
        check.sentence("0 no program, 1 under way, 2 it WAITS, 3 it has ended, 4 it was trapped (what = 0)");
        BigRunner[] runners = inEveryState();
        for (int state = 0; state < runners.length; state++) {
            check.due("look(0)", runners[state].look(0), state);
            check.due("look(0) again", runners[state].look(0), state);
        }
        BigRunner runner = Check.loaded("?a;b=1;?c");
        check.due("an INPUT is due, none waits", runner.look(0), 2);
        runner.give(1);
        check.due("an INPUT is due, one waits", runner.look(0), 1);
        runner.run(1);
        check.due("an ASSIGNMENT is due, none waits", runner.look(0), 1);
        runner.run(1);
        check.due("another INPUT is due, none waits", runner.look(0), 2);
        runner.give(1);
        runner.run(1);
        check.due("nothing is due", runner.look(0), 3);
    }

    private static void lookTraps(Check check) {
        check.sentence("by what, 0 unless so (1)");
        BigRunner[] runners = inEveryState();
        for (int state = 0; state < runners.length; state++) {
            check.due("look(1) in state " + state, runners[state].look(1), state == 4 ? 1 : 0);
        }
        BigRunner two = Check.withB(BigInteger.TEN.pow(119), "!b*10");
        check.due("before", two.look(1), 0);
        check.dueThrow("the trap", UnsupportedOperationException.class, () -> two.run(1));
        check.due("by 2", two.look(1), 2);
        BigRunner three = Check.loaded("[1:a=1]");
        for (int i = 0; i < 15; i++) {
            three.run(200);
        }
        check.due("before", three.look(1), 0);
        check.dueThrow("the trap", UnsupportedOperationException.class, () -> three.run(1));
        check.due("by 3", three.look(1), 3);
        Check.typeAll(three, "!1");
        three.load();
        check.due("after another load", three.look(1), 0);
    }

    private static void lookCounts(Check check) {
        check.sentence("the steps (2), MACHINE (3) and LONG (4) operations since it was loaded");
        BigRunner runner = Check.loaded("a=1+2;b=b+a;!-3;?c");
        int[][] due = {{0, 0, 0}, {1, 1, 0}, {2, 1, 1}, {3, 2, 1}, {3, 2, 1}};
        for (int[] row : due) {
            check.due("steps", runner.look(2), row[0]);
            check.due("MACHINE", runner.look(3), row[1]);
            check.due("LONG", runner.look(4), row[2]);
            runner.run(1);
        }
        Check.typeAll(runner, "!1;!2;!3");
        check.due("steps before the load", runner.look(2), 3);
        runner.load();
        for (int what = 2; what <= 4; what++) {
            check.due("look(" + what + ") after the load", runner.look(what), 0);
        }
    }

    private static void lookOutputs(Check check) {
        check.sentence("its outputs (5)");
        BigRunner runner = Check.loaded("[1:!7]");
        for (int i = 0; i <= 14; i++) {
            check.due("outputs", runner.look(5), i);
            runner.run(2);
        }
        Check.typeAll(runner, "!1");
        runner.load();
        check.due("outputs after another load", runner.look(5), 0);
    }

    private static void lookInputs(Check check) {
        check.sentence("the inputs that wait (6)");
        BigRunner runner = new BigRunner();
        check.due("at first", runner.look(6), 0);
        for (int i = 1; i <= 22; i++) {
            runner.give(i);
            check.due("after give " + i, runner.look(6), Math.min(i, 20));
        }
        Check.typeAll(runner, "[1:?a]");
        runner.load();
        for (int i = 19; i >= 0; i--) {
            runner.run(2);
            check.due("after an INPUT", runner.look(6), i);
        }
        runner.run(2);
        check.due("when none is left", runner.look(6), 0);
    }

    private static void lookOthers(Check check) {
        check.sentence("-1 for another what");
        for (BigRunner runner : inEveryState()) {
            for (int what : new int[] {-1, 7, -2, 8, LEAST, GREATEST}) {
                check.due("look(" + what + ")", runner.look(what), -1);
            }
            for (int what = 0; what <= 6; what++) {
                check.due("look(" + what + ") is another answer", runner.look(what) >= 0, true);
            }
        }
    }

    // Promise 8.

    private static void boundArguments(Check check) {
        check.sentence("bound: IndexOutOfBoundsException: there is no such variable (0 .. 9) or no program");
        BigRunner[] runners = inEveryState();
        for (int state = 0; state < runners.length; state++) {
            BigRunner runner = runners[state];
            for (boolean greatest : new boolean[] {false, true}) {
                for (int i : new int[] {-1, 10, LEAST, GREATEST}) {
                    check.dueThrow("bound(" + i + ")", IndexOutOfBoundsException.class, () -> runner.bound(i, greatest));
                }
                for (int i = 1; i <= 9; i++) {
                    int variable = i;
                    if (state == 0) {
                        check.dueThrow("bound(" + i + ")", IndexOutOfBoundsException.class, () -> runner.bound(variable, greatest));
                    } else {
                        boolean isInput = state == 2 && i == 1;
                        long due = isInput ? (greatest ? 1000000000 : -1000000000) : 0;
                        check.due("bound(" + i + ")", runner.bound(i, greatest), due);
                    }
                }
            }
        }
    }

    private static void boundUnbounded(Check check) {
        check.sentence("else UnsupportedOperationException: it is UNBOUNDED");
        BigRunner runner = Check.loaded("a=a+1;b=b-1;c=a+b;j=j+1;i=32768*32768;h=i*i;g=-h;f=h+1;e=g-1");
        String[] due = {"0..U", "U..0", "U..U", "0..0", "U..0", "0..U", -(1L << 60) + "..0", "0.." + (1L << 60), "0.." + (1 << 30), "0..U"};
        for (int i = 0; i < 10; i++) {
            check.due("bounds of " + i, Check.bounds(runner, i), due[i]);
        }
        check.dueThrow("bound(-1, true)", IndexOutOfBoundsException.class, () -> runner.bound(-1, true));
        check.dueThrow("bound(10, true)", IndexOutOfBoundsException.class, () -> runner.bound(10, true));
    }

    // Promise 9.

    private static void smallArguments(Check check) {
        check.sentence("small: false also if there is none such, or no program");
        BigRunner[] runners = inEveryState();
        for (int state = 0; state < runners.length; state++) {
            for (int i : new int[] {-1, 10, LEAST, GREATEST}) {
                check.due("small(" + i + ") in state " + state, runners[state].small(i), false);
            }
            for (int i = 1; i <= 9; i++) {
                check.due("small(" + i + ") in state " + state, runners[state].small(i), state > 0);
            }
        }
        BigRunner runner = Check.loaded("a=a+1;b=b-1;c=a+b;j=j+1;i=32768*32768;h=i*i;g=-h;f=h+1;e=g-1");
        boolean[] due = {false, false, false, true, false, false, true, true, true, false};
        for (int i = 0; i < 10; i++) {
            check.due("small(" + i + ")", runner.small(i), due[i]);
        }
    }

    // Promise 10.

    private static void variableArguments(Check check) {
        check.sentence("variable: IndexOutOfBoundsException: there is no such variable or no program, or k is below -2");
        BigRunner[] runners = inEveryState();
        for (int state = 0; state < runners.length; state++) {
            BigRunner runner = runners[state];
            for (int k : new int[] {-3, -2, -1, 0, 1, GREATEST, LEAST}) {
                for (int i : new int[] {-1, 10, LEAST, GREATEST}) {
                    check.dueThrow("variable(" + i + ", " + k + ")", IndexOutOfBoundsException.class, () -> runner.variable(i, k));
                }
                for (int i : new int[] {0, 1, 9}) {
                    if (state == 0 || k < -2) {
                        check.dueThrow("variable(" + i + ", " + k + ")", IndexOutOfBoundsException.class, () -> runner.variable(i, k));
                    } else {
                        boolean is4 = state > 1 && i == 0;
                        int due = k == -2 ? 1 : k == -1 ? (is4 ? 1 : 0) : k == 0 ? (is4 ? 4 : 0) : 0;
                        check.due("variable(" + i + ", " + k + ")", runner.variable(i, k), due);
                    }
                }
            }
        }
    }

    /** Numbers on both sides of every power of ten, in c, which is not SMALL, and in d, which is if they are short. */
    private static void variableDigits(Check check) {
        check.sentence("its sign, -1, 0 or 1 (k = -1), how many decimal digits it has (k = -2; 1 for 0), its k-th digit");
        for (int power = 0; power <= 120; power++) {
            for (int more = power == 120 ? -1 : -2; more <= (power == 120 ? -1 : 1); more++) {
                BigInteger value = BigInteger.TEN.pow(power).add(BigInteger.valueOf(more));
                dueDigits(check, value);
                dueDigits(check, value.negate());
            }
        }
        dueDigits(check, new BigInteger("1234567890".repeat(12)));
        dueDigits(check, new BigInteger("9876543210".repeat(12)));
        dueDigits(check, new BigInteger("-" + "100000002".repeat(13)));
    }

    private static void dueDigits(Check check, BigInteger value) {
        BigRunner runner = Check.withB(value, "!b");
        String digits = value.abs().toString();
        check.due("sign of " + value, runner.variable(1, -1), value.signum());
        check.due("digits of " + value, runner.variable(1, -2), digits.length());
        for (int k = 0; k <= 121; k++) {
            int due = k < digits.length() ? digits.charAt(digits.length() - 1 - k) - '0' : 0;
            check.due("digit " + k + " of " + value, runner.variable(1, k), due);
        }
        if (value.bitLength() > 29) {
            return;
        }
        BigRunner small = Check.ran("?a", value.intValueExact());
        check.due("it is SMALL", small.small(0), true);
        check.due("sign of " + value, small.variable(0, -1), value.signum());
        check.due("digits of " + value, small.variable(0, -2), digits.length());
        check.due("SMALL " + value, Check.variable(small, 0), value.toString());
    }

    private static void variableBehindTheHighest(Check check) {
        check.sentence("its k-th digit, the lowest one the 0-th (k >= 0; 0 behind the highest)");
        int[] behind = {1, 8, 9, 10, 17, 18, 19, 119, 120, 134, 135, 136, 1000, GREATEST - 1, GREATEST};
        BigRunner one = Check.ran("a=7");
        BigRunner wide = Check.ran("a=7;[0:a=a*a+1]");
        BigRunner zero = Check.loaded("!1");
        for (int k : behind) {
            check.due("digit " + k + " of 7", one.variable(0, k), 0);
            check.due("digit " + k + " of 7, not SMALL", wide.variable(0, k), 0);
            check.due("digit " + k + " of 0", zero.variable(0, k), 0);
        }
        check.due("digit 0 of 7", one.variable(0, 0), 7);
        check.due("digit 0 of 7, not SMALL", wide.variable(0, 0), 7);
        check.due("digit 0 of 0", zero.variable(0, 0), 0);
        // What a longer number left in the place of a shorter one is not told.
        BigRunner shorter = Check.withB(BigInteger.TEN.pow(120).subtract(BigInteger.ONE), "b=b%10;!b");
        shorter.run(2);
        for (int k : behind) {
            check.due("digit " + k + " of 9", shorter.variable(1, k), 0);
            check.due("digit " + k + " of the output 9", shorter.output(0, k), 0);
        }
        check.due("digits of 9", shorter.variable(1, -2), 1);
        check.due("the 60th power of 2, its highest", Check.ran("b=32768*32768;a=b*b").variable(0, 18), 1);
        check.due("the 60th power of 2, behind it", Check.ran("b=32768*32768;a=b*b").variable(0, 19), 0);
    }

    // Promise 11.

    private static void outputArguments(Check check) {
        check.sentence("output: IndexOutOfBoundsException: it is not kept, or k is below -2");
        BigRunner[] runners = inEveryState();
        for (int state = 0; state < runners.length; state++) {
            BigRunner runner = runners[state];
            int kept = state >= 2 ? 1 : 0;
            for (int k : new int[] {-3, -2, -1, 0, 1, GREATEST, LEAST}) {
                for (int i : new int[] {-1, kept, 11, 12, LEAST, GREATEST}) {
                    check.dueThrow("output(" + i + ", " + k + ")", IndexOutOfBoundsException.class, () -> runner.output(i, k));
                }
            }
            if (kept == 1) {
                check.dueThrow("output(0, -3)", IndexOutOfBoundsException.class, () -> runner.output(0, -3));
                check.dueThrow("output(0, " + LEAST + ")", IndexOutOfBoundsException.class, () -> runner.output(0, LEAST));
                check.due("output(0, -2)", runner.output(0, -2), 1);
                check.due("output(0, -1)", runner.output(0, -1), 1);
                check.due("output(0, 0)", runner.output(0, 0), 4);
                check.due("output(0, 1)", runner.output(0, 1), 0);
                check.due("output(0, " + GREATEST + ")", runner.output(0, GREATEST), 0);
            }
        }
    }

    private static void outputKept(Check check) {
        check.sentence("0 the first one; only the first 12 are kept");
        BigRunner runner = Check.loaded("[1:a=a+1;!a*a*a]");
        for (int made = 1; made <= 14; made++) {
            runner.run(3);
            for (int i = 0; i < Math.min(made, 12); i++) {
                int cube = (i + 1) * (i + 1) * (i + 1);
                check.due("output " + i + " of " + made, Check.output(runner, i), Integer.toString(cube));
            }
            int behind = Math.min(made, 12);
            check.dueThrow("output " + behind + " of " + made, IndexOutOfBoundsException.class, () -> runner.output(behind, 0));
            check.dueThrow("output -1 of " + made, IndexOutOfBoundsException.class, () -> runner.output(-1, 0));
        }
        check.dueThrow("the thirteenth", IndexOutOfBoundsException.class, () -> runner.output(12, -1));
        check.dueThrow("the fourteenth", IndexOutOfBoundsException.class, () -> runner.output(13, -1));
    }

    private static void outputDigits(Check check) {
        check.sentence("The same of an output");
        String[] numbers = {"0", "1", "-1", "9", "10", "-10", "99", "100", "999999999", "-999999999", "100000000"};
        for (String number : numbers) {
            for (String text : new String[] {"!" + number, "c=c+1;c=c-c;!c+" + number}) {
                BigRunner runner = Check.ran(text);
                check.due("output of " + text, Check.output(runner, 0), number);
                check.due("its sign", runner.output(0, -1), Integer.signum(Integer.parseInt(number)));
                check.due("its digits", runner.output(0, -2), number.replace("-", "").length());
                check.due("behind its highest", runner.output(0, number.replace("-", "").length()), 0);
            }
        }
        for (int sign = -1; sign <= 1; sign += 2) {
            BigInteger value = BigInteger.TEN.pow(120).subtract(BigInteger.ONE).multiply(BigInteger.valueOf(sign));
            BigRunner runner = Check.withB(value, "!b;b=1;!b");
            runner.run(200);
            check.due("sign of 120 digits", runner.output(0, -1), sign);
            check.due("how many they are", runner.output(0, -2), 120);
            check.due("the highest", runner.output(0, 119), 9);
            check.due("behind it", runner.output(0, 120), 0);
            check.due("an output stays when its variable changes", Check.output(runner, 0), value.toString());
            check.due("the other one", Check.output(runner, 1), "1");
        }
    }

    // All of them.

    private static void nothingChanges(Check check) {
        check.sentence("What throws or is refused changes nothing");
        BigRunner[] runners = inEveryState();
        for (int state = 0; state < runners.length; state++) {
            BigRunner runner = runners[state];
            for (int i = 0; i < 20; i++) {
                runner.give(i);
            }
            Check.typeAll(runner, "!(4");
            String before = Check.everything(runner);
            check.due("type", runner.type(' '), false);
            check.due("give of a number that is too great", runner.give(1000000001), false);
            check.due("give of the 21st", runner.give(20), false);
            check.dueThrow("load", IllegalArgumentException.class, runner::load);
            boolean isUnderWay = state == 1 || state == 2;
            Class<?> due = isUnderWay ? IllegalArgumentException.class : IllegalStateException.class;
            check.dueThrow("run(0)", due, () -> runner.run(0));
            check.dueThrow("run(201)", due, () -> runner.run(201));
            check.due("look(7)", runner.look(7), -1);
            check.dueThrow("bound(10, true)", IndexOutOfBoundsException.class, () -> runner.bound(10, true));
            check.due("small(10)", runner.small(10), false);
            check.dueThrow("variable(10, 0)", IndexOutOfBoundsException.class, () -> runner.variable(10, 0));
            check.dueThrow("variable(0, -3)", IndexOutOfBoundsException.class, () -> runner.variable(0, -3));
            check.dueThrow("output(12, 0)", IndexOutOfBoundsException.class, () -> runner.output(12, 0));
            check.dueThrow("output(0, -3)", IndexOutOfBoundsException.class, () -> runner.output(0, -3));
            check.due("all in state " + state, Check.everything(runner), before);
            Check.typeAll(runner, "2);[1:?a]");
            check.due("load of the whole line", runner.load(), 2);
            runner.run(1);
            check.due("what was typed", Check.output(runner, 0), "42");
            for (int i = 0; i < 20; i++) {
                runner.run(2);
                check.due("number " + i + " that was given", Check.variable(runner, 0), Integer.toString(i));
            }
            check.due("the numbers that wait", runner.look(6), 0);
        }
    }
}
