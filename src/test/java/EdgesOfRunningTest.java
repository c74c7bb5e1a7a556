import java.math.BigInteger;

/** SMALL, STEP, OPERATIONS and TRAPPED: each sentence that names an edge, on both sides of it. */
public final class EdgesOfRunningTest {
    private static final BigInteger FARTHEST = BigInteger.TEN.pow(120).subtract(BigInteger.ONE);
    // a from 0 to LIMIT, which it is: 2 MACHINE operations.
    private static final String TOP = "b=32768*32768;a=b*b;";
    // 1 + 2 * 1498 + 1 steps, which are 2998.
    private static final String STEPS_2998 = "a=1498;[a:a=a-1];";

    public static void main(String[] args) {
        Check check = new Check();
        smallAtTheLimit(check);
        smallParts(check);
        smallVariables(check);
        eachOperation(check);
        noOperation(check);
        workedOutOnly(check);
        eachStep(check);
        whatFollows(check);
        loopAgain(check);
        nextInput(check);
        noInput(check);
        divisionsBy0(check);
        divisionsByOthers(check);
        tooManyDigits(check);
        operationsUpToTheTrap(check);
        stepOfATrap(check);
        trapLeavesAllElse(check);
        steps3000(check);
        endAt3000(check);
        inputAt3000(check);
        trapsAt3000(check);
        check.end("EdgesOfRunningTest");
    }

    private static void dueOperations(Check check, String text, int machine, int wide) {
        BigRunner runner = Check.ran(text);
        check.due("MACHINE operations of " + text, runner.look(3), machine);
        check.due("LONG operations of " + text, runner.look(4), wide);
    }

    private static void dueRun(Check check, String what, BigRunner runner, int n, int want) {
        check.due(what, runner.run(n), want);
    }

    /** Makes that many steps in several calls. */
    private static void walk(Check check, BigRunner runner, int steps) {
        for (int left = steps; left > 0; left -= 200) {
            dueRun(check, "steps on the way", runner, Math.min(left, 200), Math.min(left, 200));
        }
    }

    private static void smallAtTheLimit(Check check) {
        check.sentence("An EXPR is SMALL, if its interval has no bound that is UNBOUNDED");
        dueOperations(check, TOP + "!a+0", 3, 0);
        dueOperations(check, TOP + "!a+1", 2, 1);
        dueOperations(check, TOP + "!a-1", 3, 0);
        dueOperations(check, TOP + "!a--1", 3, 1);
        dueOperations(check, TOP + "!-a", 3, 0);
        dueOperations(check, TOP + "!-a-0", 4, 0);
        dueOperations(check, TOP + "!-a-1", 3, 1);
        dueOperations(check, TOP + "!a*1", 3, 0);
        dueOperations(check, TOP + "!a*2", 2, 1);
        dueOperations(check, TOP + "!a/1", 3, 0);
        dueOperations(check, TOP + "!a%7", 3, 0);
        check.due("2 to the 60th", Check.output(Check.ran(TOP + "!a+0"), 0), "1152921504606846976");
        check.due("and 1 more", Check.output(Check.ran(TOP + "!a+1"), 0), "1152921504606846977");
        check.due("turned about", Check.output(Check.ran(TOP + "!-a-0"), 0), "-1152921504606846976");
        check.due("and 1 less", Check.output(Check.ran(TOP + "!-a-1"), 0), "-1152921504606846977");
        check.due("twice", Check.output(Check.ran(TOP + "!a*2"), 0), "2305843009213693952");
        check.due("16 times", Check.output(Check.ran(TOP + "!a*16"), 0), "18446744073709551616");
        check.due("squared", Check.output(Check.ran(TOP + "!a*a"), 0), "1329227995784915872903807060280344576");
    }

    private static void smallParts(Check check) {
        check.sentence("An EXPR is SMALL, if those of all EXPRs it is made of have no bound that is UNBOUNDED");
        // c is not SMALL: 2 MACHINE operations and 1 LONG one come before what is asked.
        String start = TOP + "c=a+1;";
        dueOperations(check, start + "!c*0", 2, 2);
        dueOperations(check, start + "!0*c", 2, 2);
        dueOperations(check, start + "!c%7", 2, 2);
        dueOperations(check, start + "!7%c", 2, 2);
        dueOperations(check, start + "!7/c", 2, 2);
        dueOperations(check, start + "!c*0+1", 2, 3);
        dueOperations(check, start + "!1+c*0", 2, 3);
        dueOperations(check, start + "!-(c*0)", 2, 3);
        dueOperations(check, start + "!1+2+c%7", 3, 3);
        dueOperations(check, start + "!c%7+(1+2)", 3, 3);
        dueOperations(check, start + "!(a+1)*0", 2, 3);
        dueOperations(check, start + "!1*2*3", 4, 1);
        dueOperations(check, start + "{c*0:!1|!2*3}", 3, 2);
        dueOperations(check, start + "[c*0:!1];!2*3", 3, 2);
        check.due("7 / c", Check.output(Check.ran(start + "!7/c"), 0), "0");
        check.due("7 % c", Check.output(Check.ran(start + "!7%c"), 0), "7");
        check.due("c * 0 + 1", Check.output(Check.ran(start + "!c*0+1"), 0), "1");
    }

    private static void smallVariables(Check check) {
        check.sentence("a variable is SMALL if its interval is so");
        BigRunner runner = Check.ran(TOP + "c=-a;d=a+1;e=-a-1;f=d%7;g=d*0;h=7/d;i=h+f");
        boolean[] due = {true, true, true, false, false, true, true, true, true, true};
        for (int i = 0; i < 10; i++) {
            check.due("small(" + i + ")", runner.small(i), due[i]);
        }
        // a, c and what is worked out from d alone: a SMALL variable may hold what was worked out in LONG ones.
        check.due("f", Check.variable(runner, 5), "2");
        check.due("i", Check.variable(runner, 8), "2");
        check.due("MACHINE operations", runner.look(3), 2 + 1 + 0 + 1 + 0 + 0 + 0 + 1);
        check.due("LONG operations", runner.look(4), 1 + 1 + 1 + 1 + 1);
        dueOperations(check, TOP + "d=a+1;f=d%7;!f+1;!f*f", 4, 2);
        // The farthest ones that a SMALL variable gets from LONG operations.
        String[][] rows = {
            {"(a+a-1)%a", "1152921504606846975"}, {"-(a+a-1)%a", "-1152921504606846975"}, {"a%(a+1)", "1152921504606846976"},
            {"-a%(a+1)", "-1152921504606846976"}, {"(a+a)%a", "0"}, {"(a+a+1)%a", "1"}, {"-(a+a+1)%a", "-1"},
            {"(a*2+999999999)%a", "999999999"}, {"(a*2+999999999+1)%a", "1000000000"}, {"-(a*2+999999999+1)%a", "-1000000000"},
        };
        for (String[] row : rows) {
            BigRunner far = Check.ran(TOP + "c=" + row[0] + ";!c;d=c/1");
            check.due("c is SMALL", far.small(2), true);
            check.due("c = " + row[0], Check.variable(far, 2), row[1]);
            check.due("!c", Check.output(far, 0), row[1]);
            check.due("d = c / 1", Check.variable(far, 3), row[1]);
        }
    }

    private static void eachOperation(Check check) {
        check.sentence("each + - * / % and the - of a FACTOR that a step works out is MACHINE if it is SMALL, else LONG");
        String[] exprs = {"a+1", "a-1", "a*1", "a/1", "a%1", "-a", "1+a", "1-a", "1*a", "1/a", "1%a", "a+a", "a-a", "a*a"};
        for (String expr : exprs) {
            dueOperations(check, "a=1;!" + expr, 1, 0);
            dueOperations(check, "a=1;[0:a=a*2;a=a+1];!" + expr, 0, 1);
        }
        dueOperations(check, "!1+2-3*4/5%6", 5, 0);
        dueOperations(check, "!--1", 2, 0);
        dueOperations(check, "!1--1", 2, 0);
        dueOperations(check, "b=1+1;!2+2;[0+0:?a];{1+1:?b|?a}", 4, 0);
    }

    private static void noOperation(Check check) {
        check.sentence("OPERATIONS are counted: each + - * / % and the - of a FACTOR (and nothing else)");
        dueOperations(check, "a=1;!a;!(a);!((7));[0:?a];{1:b=a|?a};[b:b=0]", 0, 0);
        BigRunner given = Check.ran("?a;?b;!a", -5, 6);
        check.due("MACHINE operations of INPUTs", given.look(3), 0);
        check.due("LONG operations of INPUTs", given.look(4), 0);
        BigRunner wide = Check.withB(FARTHEST, "c=b;!b;{b:!c|!1}");
        int before = wide.look(4);
        wide.run(200);
        check.due("LONG operations of copies", wide.look(4), before);
    }

    private static void workedOutOnly(Check check) {
        check.sentence("that a step works out");
        dueOperations(check, "{1:!1+1|!1+1+1+1}", 1, 0);
        dueOperations(check, "{0:!1+1|!1+1+1+1}", 3, 0);
        dueOperations(check, "[0:!1+1]", 0, 0);
        dueOperations(check, "a=2;[a:b=1+1;a=a/2]", 4, 0);
        BigRunner runner = Check.loaded("a=1+1;b=1+1;!1+1");
        for (int step = 0; step <= 3; step++) {
            check.due("after " + step + " steps", runner.look(3), step);
            if (step < 3) {
                runner.run(1);
            }
        }
        BigRunner waits = Check.ran("a=1+1;?b;!1+1");
        check.due("while it WAITS", waits.look(3), 1);
        waits.run(200);
        check.due("while it still WAITS", waits.look(3), 1);
    }

    private static void eachStep(Check check) {
        check.sentence("A STEP does an ASSIGNMENT, an INPUT, an OUTPUT, or looks at the EXPR of a LOOP or CHOICE");
        String[] texts = {"a=1", "?a", "!1", "[0:!1]", "{1:!1|!2}", "{0:!1|!2}", "{0:!1|!2;!3}", "a=1;[a:a=0]", "{1:[0:!1]|!1}"};
        int[] due = {1, 1, 1, 1, 2, 2, 3, 4, 2};
        for (int i = 0; i < texts.length; i++) {
            BigRunner runner = Check.loaded(texts[i]);
            runner.give(1);
            dueRun(check, "steps of " + texts[i], runner, 200, due[i]);
            check.due("counted of " + texts[i], runner.look(2), due[i]);
            check.due("the end of " + texts[i], runner.look(0), 3);
        }
    }

    private static void whatFollows(Check check) {
        check.sentence("then what follows it comes");
        String[][] rows = {
            {"!1;!2;!3", "1 2 3"}, {"{1:!1|!2};!3", "1 3"}, {"{0:!1|!2};!3", "2 3"}, {"{1:!1;!2|!3};!4", "1 2 4"},
            {"{0:!1|!2;!3};!4", "2 3 4"}, {"[0:!1];!2", "2"}, {"{1:[0:!1]|!2};!3", "3"}, {"{0:!1|[0:!2]};!3", "3"},
            {"a=2;[a:{a-1:!1|!2};a=a-1];!3", "1 2 3"}, {"a=2;[a:a=a-1;{a:!1|!2}];!3", "1 2 3"},
            {"a=2;[a:a=a-1;[0:!1];!2];!3", "2 2 3"}, {"a=2;[a:a=a-1;[0:!1]];!3", "3"}, {"{1:{1:{1:!1|!2}|!3}|!4};!5", "1 5"},
            {"{0:!1|{0:!2|{0:!3|!4}}};!5", "4 5"}, {"{1:{0:!1|!2}|!3};!4", "2 4"},
            {"a=1;[a:b=1;[b:c=1;[c:!1;c=0];b=0];a=0];!2", "1 2"},
        };
        for (String[] row : rows) {
            BigRunner runner = Check.ran(row[0]);
            StringBuilder outputs = new StringBuilder();
            for (int i = 0; i < runner.look(5); i++) {
                outputs.append(i == 0 ? "" : " ").append(Check.output(runner, i));
            }
            check.due("the outputs of " + row[0], outputs.toString(), row[1]);
            check.due("the end of " + row[0], runner.look(0), 3);
        }
    }

    private static void loopAgain(Check check) {
        check.sentence("A LOOP's EXPR is looked at again behind its PROGRAM");
        BigRunner runner = Check.loaded("a=2;[a:a=a-1];b=9");
        String[] due = {"2 0", "2 0", "1 0", "1 0", "0 0", "0 0", "0 9"};
        for (int i = 0; i < due.length; i++) {
            runner.run(1);
            check.due("after step " + (i + 1), Check.variable(runner, 0) + " " + Check.variable(runner, 1), due[i]);
        }
        check.due("it has ended", runner.look(0), 3);
        // The EXPR is worked out each time that it is looked at, and the last look is a step too.
        BigRunner nested = Check.ran("a=2;[a:b=2;[b:b=b-1;c=c+1];a=a-1]");
        check.due("how often the inner one", Check.variable(nested, 2), "4");
        check.due("steps", nested.look(2), 1 + 3 + 2 * (1 + 3 + 4 + 1));
        BigRunner last = Check.loaded("a=1;[a:a=0]");
        last.run(3);
        check.due("before the last look", last.look(0), 1);
        last.run(1);
        check.due("after the last look", last.look(0), 3);
    }

    private static void nextInput(Check check) {
        check.sentence("An INPUT takes the next number that waits");
        BigRunner runner = Check.loaded("?a;?b;?c");
        runner.give(1000000000);
        runner.give(-1000000000);
        runner.give(0);
        runner.give(8);
        for (int step = 1; step <= 3; step++) {
            runner.run(1);
            check.due("numbers that wait after step " + step, runner.look(6), 4 - step);
        }
        check.due("a", Check.variable(runner, 0), "1000000000");
        check.due("b", Check.variable(runner, 1), "-1000000000");
        check.due("c", Check.variable(runner, 2), "0");
        BigRunner wide = Check.ran("?a;?b;[0:a=a*a*a;b=b*b*b]", -1000000000, 1000000000);
        check.due("a, not SMALL", Check.variable(wide, 0), "-1000000000");
        check.due("b, not SMALL", Check.variable(wide, 1), "1000000000");
        check.due("they are not SMALL", wide.small(0) || wide.small(1), false);
    }

    private static void noInput(Check check) {
        check.sentence("if none does, the program WAITS, and the step is not made");
        BigRunner runner = Check.loaded("a=7;?a;!a");
        dueRun(check, "the step before", runner, 200, 1);
        for (int i = 0; i < 3; i++) {
            check.due("it WAITS", runner.look(0), 2);
            dueRun(check, "no step", runner, 200, 0);
            check.due("steps", runner.look(2), 1);
            check.due("a", Check.variable(runner, 0), "7");
        }
        runner.give(-3);
        check.due("it WAITS no more", runner.look(0), 1);
        dueRun(check, "the others", runner, 200, 2);
        check.due("the output", Check.output(runner, 0), "-3");
        BigRunner loop = Check.loaded("[1:?a]");
        loop.give(1);
        dueRun(check, "up to the second INPUT", loop, 200, 3);
        check.due("it WAITS", loop.look(0), 2);
    }

    private static void divisionsBy0(Check check) {
        check.sentence("It is TRAPPED: 1 by a / or % with 0");
        for (String x : new String[] {"1", "0", "-1", "999999999"}) {
            for (String sign : new String[] {"/", "%"}) {
                for (String step : new String[] {"!X", "c=X", "{X:?a|?b}", "[X:?a]", "!1+X", "!-(X)"}) {
                    dueTrap1(check, "a=5;" + step.replace("X", x + sign + "0"));
                    dueTrap1(check, "a=5;" + step.replace("X", x + sign + "(a-5)"));
                    // The same in LONG ones.
                    dueTrap1(check, "a=5;" + step.replace("X", x + sign + "d") + ";d=d+1");
                    dueTrap1(check, "a=5;" + step.replace("X", "(" + x + "+d)" + sign + "0") + ";d=d+1");
                }
            }
        }
    }

    private static void dueTrap1(Check check, String text) {
        BigRunner runner = Check.loaded(text);
        check.dueThrow(text, ArithmeticException.class, () -> runner.run(200));
        check.due("trap of " + text, runner.look(1), 1);
        check.due("state of " + text, runner.look(0), 4);
        check.due("steps of " + text, runner.look(2), 2);
    }

    private static void divisionsByOthers(Check check) {
        check.sentence("1 by a / or % with 0 (and with no other number)");
        for (String y : new String[] {"1", "-1", "999999999", "-999999999"}) {
            for (String sign : new String[] {"/", "%"}) {
                check.due("0" + sign + y, Check.output(Check.ran("!0" + sign + y), 0), "0");
                check.due("0" + sign + y + ", LONG", Check.output(Check.ran("!d" + sign + y + ";d=d+1"), 0), "0");
            }
        }
        check.due("0 * 0", Check.output(Check.ran("!0*0"), 0), "0");
        // Limbs of 0 are not 0: 10 to the 117th.
        BigRunner runner = Check.withB(BigInteger.TEN.pow(117), "!b/b;!5%b;!5/b");
        dueRun(check, "steps", runner, 200, 3);
        check.due("5 % b", Check.output(runner, 1), "5");
        check.due("not worked out, no trap", Check.ran("{0:a=1/0|a=2};[0:a=1%0]").look(0), 3);
    }

    private static void tooManyDigits(Check check) {
        check.sentence("2 when a number would have more than 120 digits");
        for (String end : new String[] {"c=b+X", "!b+X", "{b+X:c=0|c=0}", "[b+X:c=0]", "c=-b-X", "!-b-X"}) {
            BigRunner fits = Check.withB(FARTHEST, end.replace("X", "0"));
            dueRun(check, end + " with 0", fits, 1, 1);
            check.due("no trap of " + end + " with 0", fits.look(1), 0);
            BigRunner trapped = Check.withB(FARTHEST, end.replace("X", "1"));
            check.dueThrow(end + " with 1", UnsupportedOperationException.class, () -> trapped.run(1));
            check.due("trap of " + end + " with 1", trapped.look(1), 2);
            check.due("state of " + end + " with 1", trapped.look(0), 4);
        }
    }

    private static void operationsUpToTheTrap(Check check) {
        check.sentence("The step that is trapped by 1 or 2 counts, its operations up to the one that traps, too (operations)");
        dueOperations(check, "!1/0", 1, 0);
        dueOperations(check, "!1%0", 1, 0);
        dueOperations(check, "!1+2*3-4/0", 3, 0);
        dueOperations(check, "!4/0+1*2*3", 1, 0);
        dueOperations(check, "!(1+2)/(3-3)*(4+5)", 3, 0);
        dueOperations(check, "!-1/0-(5*5)", 2, 0);
        dueOperations(check, "!1/d+1;d=d+1", 0, 1);
        dueOperations(check, "!2*3+1/d+1*2;d=d+1", 1, 1);
        dueOperations(check, "!5*5-1%d*(6*6);d=d+1", 1, 1);
        int[][] due = {{0, 1}, {1, 2}, {1, 1}};
        String[] exprs = {"b+1+(2*3)", "2*3+(b-1)*b-1", "2*3-b*9+8"};
        for (int i = 0; i < exprs.length; i++) {
            BigRunner runner = Check.withB(FARTHEST, "!" + exprs[i]);
            int machine = runner.look(3);
            int wide = runner.look(4);
            check.dueThrow(exprs[i], UnsupportedOperationException.class, () -> runner.run(1));
            check.due("MACHINE operations of " + exprs[i], runner.look(3) - machine, due[i][0]);
            check.due("LONG operations of " + exprs[i], runner.look(4) - wide, due[i][1]);
        }
    }

    private static void stepOfATrap(Check check) {
        check.sentence("The step that is trapped by 1 or 2 counts, its operations up to the one that traps, too (the step)");
        String[] texts = {"!1/0", "a=1;!1/0", "a=1;b=2;c=1%0", "[1/0:!1]", "{1/0:!1|!2}", "a=1;[a:b=1/(a-1)]"};
        int[] due = {1, 2, 3, 1, 1, 3};
        for (int i = 0; i < texts.length; i++) {
            check.due("steps of " + texts[i], Check.ran(texts[i]).look(2), due[i]);
        }
        BigRunner runner = Check.withB(FARTHEST, "c=1;d=b+1;e=1");
        int before = runner.look(2);
        check.dueThrow("b + 1", UnsupportedOperationException.class, () -> runner.run(200));
        check.due("steps", runner.look(2) - before, 2);
        check.due("the step before was made", Check.variable(runner, 2), "1");
        check.due("the step behind was not", Check.variable(runner, 4), "0");
    }

    private static void trapLeavesAllElse(Check check) {
        check.sentence("the steps before are made then (and the one that is trapped does nothing else)");
        BigRunner one = Check.ran("a=5;!a;a=a/0;!6");
        check.due("a", Check.variable(one, 0), "5");
        check.due("outputs", one.look(5), 1);
        BigRunner two = Check.withB(FARTHEST, "!b;b=b*b;!6");
        check.dueThrow("b * b", UnsupportedOperationException.class, () -> two.run(200));
        check.due("b", Check.variable(two, 1), FARTHEST.toString());
        check.due("outputs", two.look(5), 1);
        BigRunner three = Check.ran("!1;!2/0");
        check.due("outputs", three.look(5), 1);
        three.give(9);
        check.due("numbers still can be given", three.look(6), 1);
        BigRunner none = Check.ran("{1/0:a=1|a=2};a=3");
        check.due("neither way was gone", Check.variable(none, 0), "0");
    }

    private static void steps3000(Check check) {
        check.sentence("3 when 3000 steps were made and one more is due");
        for (int last = 1; last <= 200; last += 199) {
            BigRunner runner = Check.loaded("[1:a=a+1]");
            walk(check, runner, 2999);
            dueRun(check, "step 3000", runner, 1, 1);
            check.due("steps", runner.look(2), 3000);
            check.due("no trap with step 3000", runner.look(1), 0);
            int n = last;
            check.dueThrow("step 3001", UnsupportedOperationException.class, () -> runner.run(n));
            check.due("trap", runner.look(1), 3);
            check.due("state", runner.look(0), 4);
            check.due("steps", runner.look(2), 3000);
            check.due("operations", runner.look(4), 1500);
            check.due("a", Check.variable(runner, 0), "1500");
            check.dueThrow("then", IllegalStateException.class, () -> runner.run(1));
        }
        BigRunner within = Check.loaded("[1:a=a+1]");
        walk(check, within, 2999);
        check.dueThrow("steps 3000 and 3001", UnsupportedOperationException.class, () -> within.run(2));
        check.due("step 3000 was made", Check.variable(within, 0), "1500");
        check.due("steps", within.look(2), 3000);
        // The steps are those since it was loaded.
        Check.typeAll(within, "[1:a=a+1]");
        within.load();
        walk(check, within, 3000);
        check.due("after another load", within.look(0), 1);
    }

    private static void endAt3000(Check check) {
        check.sentence("3000 steps were made and one more is due (there is none at the end)");
        BigRunner before = Check.loaded(STEPS_2998 + "b=1");
        walk(check, before, 2800);
        dueRun(check, "the last steps up to 2999", before, 200, 199);
        check.due("ended after 2999", before.look(0), 3);
        BigRunner with = Check.loaded(STEPS_2998 + "b=1;c=1");
        walk(check, with, 2999);
        dueRun(check, "step 3000", with, 200, 1);
        check.due("ended after 3000", with.look(0), 3);
        check.dueThrow("then", IllegalStateException.class, () -> with.run(1));
        check.due("no trap", with.look(1), 0);
        BigRunner after = Check.loaded(STEPS_2998 + "b=1;c=1;d=1");
        walk(check, after, 2999);
        check.dueThrow("steps 3000 and 3001", UnsupportedOperationException.class, () -> after.run(200));
        check.due("c", Check.variable(after, 2), "1");
        check.due("d", Check.variable(after, 3), "0");
        // The last look of a LOOP is a step as well.
        BigRunner loop = Check.loaded("b=1;c=1;" + STEPS_2998.substring(0, STEPS_2998.length() - 1));
        walk(check, loop, 2999);
        dueRun(check, "the last look", loop, 200, 1);
        check.due("ended with the last look", loop.look(0), 3);
    }

    private static void inputAt3000(Check check) {
        check.sentence("one more is due (also an INPUT for which no number waits)");
        BigRunner lacks = Check.loaded(STEPS_2998 + "b=1;c=1;?d");
        walk(check, lacks, 3000);
        check.dueThrow("an INPUT without a number", UnsupportedOperationException.class, () -> lacks.run(1));
        check.due("trap", lacks.look(1), 3);
        check.due("state", lacks.look(0), 4);
        BigRunner within = Check.loaded(STEPS_2998 + "b=1;c=1;?d");
        walk(check, within, 2999);
        check.dueThrow("an INPUT without a number", UnsupportedOperationException.class, () -> within.run(2));
        BigRunner has = Check.loaded(STEPS_2998 + "b=1;c=1;?d");
        has.give(4);
        walk(check, has, 3000);
        check.dueThrow("an INPUT with a number", UnsupportedOperationException.class, () -> has.run(1));
        check.due("the number still waits", has.look(6), 1);
        check.due("d", Check.variable(has, 3), "0");
        // After 2999 steps an INPUT may wait, and be made.
        BigRunner waits = Check.loaded(STEPS_2998 + "b=1;?d");
        walk(check, waits, 2999);
        dueRun(check, "an INPUT that WAITS", waits, 200, 0);
        check.due("it WAITS", waits.look(0), 2);
        check.due("no trap", waits.look(1), 0);
        waits.give(4);
        dueRun(check, "step 3000", waits, 200, 1);
        check.due("it has ended", waits.look(0), 3);
    }

    private static void trapsAt3000(Check check) {
        check.sentence("1 by a / or % with 0, 3 when 3000 steps were made (which of them)");
        BigRunner first = Check.loaded(STEPS_2998 + "b=1;c=1/0");
        walk(check, first, 2999);
        check.dueThrow("step 3000 by 1", ArithmeticException.class, () -> first.run(200));
        check.due("trap", first.look(1), 1);
        check.due("steps", first.look(2), 3000);
        BigRunner third = Check.loaded(STEPS_2998 + "b=1;c=1;d=1/0");
        walk(check, third, 3000);
        int before = third.look(3) + third.look(4);
        check.dueThrow("step 3001 by 3", UnsupportedOperationException.class, () -> third.run(200));
        check.due("trap", third.look(1), 3);
        check.due("operations", third.look(3) + third.look(4), before);
    }
}
