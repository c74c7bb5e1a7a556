/** Promise 6: run, with all that the document says of RUNNING. */
public final class RunTest {
    public static void main(String[] args) {
        Check check = new Check();
        arguments(check);
        stepByStep(check);
        inputs(check);
        divisionBy0(check);
        tooManyDigits(check);
        tooManySteps(check);
        lastOf3000(check);
        inputAfter3000(check);
        operations(check);
        values(check);
        check.end("RunTest");
    }

    private static void arguments(Check check) {
        int[] wrong = {0, -1, 201, Integer.MIN_VALUE, Integer.MAX_VALUE};
        BigRunner none = new BigRunner();
        BigRunner ended = Check.ran("a=1");
        BigRunner trapped = Check.ran("a=1/0");
        BigRunner under = Check.loaded("[1:a=a+1]");
        String before = Check.everything(under);
        for (int n : wrong) {
            check.dueThrow("no program, run(" + n + ")", IllegalStateException.class, () -> none.run(n));
            check.dueThrow("ended, run(" + n + ")", IllegalStateException.class, () -> ended.run(n));
            check.dueThrow("trapped, run(" + n + ")", IllegalStateException.class, () -> trapped.run(n));
            check.dueThrow("run(" + n + ")", IllegalArgumentException.class, () -> under.run(n));
        }
        check.dueThrow("ended, run(1)", IllegalStateException.class, () -> ended.run(1));
        check.dueThrow("trapped, run(1)", IllegalStateException.class, () -> trapped.run(1));
        check.due("nothing changed", Check.everything(under), before);
        check.due("run(200)", under.run(200), 200);
        check.due("run(1)", under.run(1), 1);
    }

    private static void stepByStep(Check check) {
        BigRunner runner = Check.loaded("a=2;[a:a=a-1;{a:b=b+10|c=c+1}];!b");
        String[] due = {"2 0 0", "2 0 0", "1 0 0", "1 0 0", "1 10 0", "1 10 0", "0 10 0", "0 10 0", "0 10 1", "0 10 1", "0 10 1"};
        for (int i = 0; i < due.length; i++) {
            check.due("step " + i, runner.run(1), 1);
            String got = Check.variable(runner, 0) + " " + Check.variable(runner, 1) + " " + Check.variable(runner, 2);
            check.due("after step " + i, got, due[i]);
        }
        check.due("steps", runner.look(2), due.length);
        check.dueThrow("it has ended", IllegalStateException.class, () -> runner.run(1));
        check.due("a LOOP that is not entered", Check.loaded("[0:a=1]").run(200), 1);
        check.due("nor below 0", Check.loaded("[-1:a=1];b=2").run(200), 2);
        check.due("a CHOICE at 0", Check.variable(Check.ran("{0:a=1|a=2}"), 0), "2");
        check.due("a CHOICE below 0", Check.variable(Check.ran("{-5:a=1|a=2}"), 0), "2");
        check.due("a CHOICE above 0", Check.variable(Check.ran("{5:a=1|a=2};b=a"), 1), "1");
        check.due("LOOPs in CHOICEs", Check.variable(Check.ran("a=9;[a:{a%2:[b:b=b-1]|{a-4:b=a|b=1}};a=a-1]"), 1), "0");
    }

    private static void inputs(Check check) {
        BigRunner runner = Check.loaded("a=1;?b;?c;!b+c");
        check.due("up to the INPUT", runner.run(200), 1);
        check.due("none made while it WAITS", runner.run(200), 0);
        check.due("steps", runner.look(2), 1);
        runner.give(-4);
        check.due("one made", runner.run(200), 1);
        check.due("b", Check.variable(runner, 1), "-4");
        runner.give(1000000000);
        check.due("the others", runner.run(200), 2);
        check.due("output", Check.output(runner, 0), "999999996");
    }

    private static void divisionBy0(Check check) {
        String[] texts = {"a=5;!1/0", "a=5;!1%0", "a=5;b=a/(a-5)", "a=5;{1/b:?a|?b}", "a=5;[1%b:?a]", "a=5;b=0/0", "a=5;b=0%0"};
        for (String text : texts) {
            BigRunner runner = Check.loaded(text);
            check.dueThrow(text, ArithmeticException.class, () -> runner.run(200));
            check.due("state", runner.look(0), 4);
            check.due("trap", runner.look(1), 1);
            check.due("the step counts", runner.look(2), 2);
            check.due("the steps before are made", Check.variable(runner, 0), "5");
            check.due("no output", runner.look(5), 0);
            check.dueThrow("again", IllegalStateException.class, () -> runner.run(1));
        }
        BigRunner wide = Check.loaded("a=7;b=a;[b:b=b-1];c=a/b");
        check.dueThrow("a LONG one", ArithmeticException.class, () -> wide.run(200));
        check.due("c is as before", Check.variable(wide, 2), "0");
    }

    private static void tooManyDigits(Check check) {
        BigRunner runner = Check.loaded("a=10;b=119;[b:c=c+1;d=a;b=b-1];a=1;[c:a=a*10;c=c-1];!a;!a*9;!a+a*9");
        for (int i = 0; i < 4; i++) {
            runner.run(200);
        }
        check.dueThrow("10 to the 120th", UnsupportedOperationException.class, () -> runner.run(200));
        check.due("trap", runner.look(1), 2);
        check.due("state", runner.look(0), 4);
        check.due("10 to the 119th", Check.output(runner, 0), "1" + "0".repeat(119));
        check.due("9 times that", Check.output(runner, 1), "9" + "0".repeat(119));
        check.due("outputs", runner.look(5), 2);
        check.dueThrow("again", IllegalStateException.class, () -> runner.run(1));
        BigRunner squares = Check.loaded("a=9;[1:a=a*a]");
        check.dueThrow("squares", UnsupportedOperationException.class, () -> squares.run(200));
        check.due("9 to the 64th", squares.variable(0, -2), 62);
        check.due("steps", squares.look(2), 15);
        BigRunner negative = Check.loaded("a=-9;[1:a=a*a*-1]");
        check.dueThrow("negative squares", UnsupportedOperationException.class, () -> negative.run(200));
        check.due("-9 to the 64th", Check.variable(negative, 0), "-" + java.math.BigInteger.valueOf(9).pow(64));
    }

    private static void tooManySteps(Check check) {
        BigRunner runner = Check.loaded("[1:a=a+1]");
        for (int i = 0; i < 15; i++) {
            check.due("run " + i, runner.run(200), 200);
        }
        check.due("3000 made", runner.look(2), 3000);
        check.dueThrow("one more", UnsupportedOperationException.class, () -> runner.run(1));
        check.due("trap", runner.look(1), 3);
        check.due("state", runner.look(0), 4);
        check.due("it does not count", runner.look(2), 3000);
        check.due("a", Check.variable(runner, 0), "1500");
        BigRunner within = Check.loaded("[1:a=a+1]");
        for (int i = 0; i < 15; i++) {
            within.run(199);
        }
        check.dueThrow("within a call", UnsupportedOperationException.class, () -> within.run(16));
        check.due("the steps before are made", Check.variable(within, 0), "1500");
        check.dueThrow("again", IllegalStateException.class, () -> within.run(1));
    }

    /** 3000 steps and an end are no trap. */
    private static void lastOf3000(Check check) {
        BigRunner runner = Check.loaded("a=1498;[a:a=a-1];b=1;c=1");
        int made = 0;
        for (int i = 0; i < 15; i++) {
            made += runner.run(200);
        }
        check.due("steps", made, 3000);
        check.due("ended", runner.look(0), 3);
        check.dueThrow("one more", IllegalStateException.class, () -> runner.run(200));
        check.due("no trap", runner.look(1), 0);
    }

    private static void inputAfter3000(Check check) {
        BigRunner runner = Check.loaded("a=1498;[a:a=a-1];b=1;c=1;?d");
        for (int i = 0; i < 15; i++) {
            runner.run(200);
        }
        check.dueThrow("an INPUT without a number", UnsupportedOperationException.class, () -> runner.run(200));
        check.due("trap", runner.look(1), 3);
        check.due("steps", runner.look(2), 3000);
        BigRunner before = Check.loaded("a=1498;[a:a=a-1];b=1;?d;?e");
        for (int i = 0; i < 15; i++) {
            before.run(200);
        }
        check.due("the 3000th step WAITS", before.run(200), 0);
        before.give(1);
        before.give(2);
        check.dueThrow("then it is made", UnsupportedOperationException.class, () -> before.run(200));
        check.due("d", Check.variable(before, 3), "1");
        check.due("the other input still waits", before.look(6), 1);
    }

    private static void operations(Check check) {
        dueOperations(check, "a=1;!a", 0, 0);
        dueOperations(check, "!1+2-3*4/5%6", 5, 0);
        dueOperations(check, "!-1;!--1;!-(1-2)", 5, 0);
        dueOperations(check, "{1+1:a=2*3|a=4*5*6}", 2, 0);
        dueOperations(check, "!1/0+2*3", 1, 0);
        dueOperations(check, "!2*3+1/(4-4)+5*6", 3, 0);
        dueOperations(check, "a=a+1;!1*2/(a-1)+3*4", 1, 3);
        dueOperations(check, "a=a+9;b=a%10;!b*b;!a*0+1;!1+2+a", 2, 5);
        dueOperations(check, "a=a+1;b=a%10;!b*b;!a*0+1;!1+2+a", 1, 6);
        dueOperations(check, "a=999999999*999999999;!a;!a+a", 1, 1);
        dueOperations(check, "!999999999*999999999*2-1", 1, 2);
        dueOperations(check, "[a:a=a+1;b=1+1];c=a*2+3*4", 1, 2);
        dueOperations(check, "a=9;[1:a=a*a]", 0, 7);
    }

    private static void dueOperations(Check check, String text, int machine, int wide) {
        BigRunner runner = Check.ran(text);
        check.due("MACHINE of " + text, runner.look(3), machine);
        check.due("LONG of " + text, runner.look(4), wide);
    }

    private static void values(Check check) {
        String[][] due = {
            {"!2-3-4", "-5"}, {"!2-3*4", "-10"}, {"!(2-3)*4", "-4"}, {"!100/7/2", "7"}, {"!100%7*3", "6"}, {"!2*7%4", "2"},
            {"!7/2", "3"}, {"!-7/2", "-3"}, {"!7/-2", "-3"}, {"!-7/-2", "3"}, {"!7%3", "1"}, {"!-7%3", "-1"}, {"!7%-3", "1"},
            {"!-7%-3", "-1"}, {"!0/5", "0"}, {"!0%5", "0"}, {"!3--4", "7"}, {"!-2*-3", "6"}, {"!007", "7"}, {"!-0", "0"},
            {"!999999999*999999999*999999999", "999999997000000002999999999"}, {"!---5", "-5"}, {"!-(3-8)", "5"},
        };
        for (String[] pair : due) {
            check.due(pair[0], Check.output(Check.ran(pair[0]), 0), pair[1]);
            // The same in long numbers: 1 is multiplied by what surely is 1 but not SMALL.
            String wide = "?a;[a:b=b+1;a=a-1];" + pair[0].replaceAll("([0-9]+)", "$1*b");
            String left = wide.replaceAll("/([0-9]+)\\*b", "/($1*b)").replaceAll("%([0-9]+)\\*b", "%($1*b)")
                    .replaceAll("([/%])-([0-9]+)\\*b", "$1-($2*b)");
            check.due(left, Check.output(Check.ran(left, 1), 0), pair[1]);
        }
    }
}
