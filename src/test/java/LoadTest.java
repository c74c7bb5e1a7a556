/** Promise 4: load, and what is a PROGRAM. */
public final class LoadTest {
    private static final String[] PROGRAMS = {
        "a=0", "j=1", "?a", "?j", "!1", "!123456789", "!000000000", "!a", "!-a", "!--a", "!(a)", "!((a))", "!-(-a)",
        "a=a+b-c*d/e%f", "a=1--1", "a=1*-1", "a=1/-b%-(c)", "[a:?b]", "[a:?b;?c]", "{a:?b|?c}", "{a:?b;!b|!c;?c}",
        "[a:[b:[c:a=1]]]", "{a:{b:?c|?d}|{e:?f|?g}}", "[a-1:b=1];[c*2:d=1]", "!1;!2;!3", "[-a:!1]",
        "[(a):!1]", "{-1:!1|!2}", "{(1):[1:!1]|[0:!2]}"
    };
    private static final String[] OTHERS = {
        "", "a", "a=", "=1", "1", "k=1", "A=1", "`=1", "a=k", "a=A", "?", "?k", "?1", "?a?b", "!", "!k", "!!1", "!1!2",
        "a=1;", ";a=1", ";", "a=1;;b=1", "a=1234567890", "a=1+", "a=+1", "a=*1", "a=1*", "a=1/", "a=1%", "a=1-", "a=1**2",
        "a=1+*2", "a=(1", "a=1)", "a=()", "a=(a)b", "a=1a", "a=a1", "a=ab", "a=(1)(2)", "a==1", "a=b=1", "a:1", "[a:b=1",
        "[a:]", "[:b=1]", "[ab=1]", "a:b=1]", "[a:b=1]]", "[a:b=1}", "[a|b=1]", "{a:b=1}", "{a:b=1|}", "{a:|b=1}",
        "{a:b=1|c=1", "{a:b=1|c=1]", "{:b=1|c=1}", "{a:b=1|c=1|d=1}", "{a:b=1:c=1}", "[a:b=1;]", "[a:;b=1]", "[a:b=1]c=1",
        "{a:b=1|c=1}d=1", "[a=1:b=1]", "a=[1:b=1]", "(a=1)", "a=-", "a=-;b=1", "a=1.5", "a=1,b=1", "a=1&2", "a=\"1\"",
        "!1+(2-3", "!(1+2))", "-1", "a", "ab=1", "a1=1", "[a:b=1];", "!(1;2)", "!1234567890", "?a=1", "!a=1"
    };

    public static void main(String[] args) {
        Check check = new Check();
        for (String text : PROGRAMS) {
            check.due("load of " + text, Check.loads(text), true);
        }
        for (String text : OTHERS) {
            check.due("load of " + text, Check.loads(text), false);
        }
        String deep = "[a:".repeat(9) + "?a" + "]".repeat(9);
        String lessDeep = "[a:".repeat(7) + "?a" + "]".repeat(7);
        check.due("load of as many STATEMENTs as can be", Check.loads(deep + ";" + lessDeep + ";?a"), true);
        check.due("load of as many side by side", Check.loads("[a:?a];".repeat(10) + "?a"), true);
        check.due("load of as many INPUTs", Check.loads("?a;".repeat(23) + "?a"), true);
        depth(check);
        rounds(check);
        beginsAnew(check);
        lineIsEmptyThen(check);
        refusedChangesNothing(check);
        check.end("LoadTest");
    }

    private static void depth(Check check) {
        check.due("9 -", Check.loads("a=" + "-".repeat(9) + "1"), true);
        check.due("10 -", Check.loads("a=" + "-".repeat(10) + "1"), false);
        check.due("9 (", Check.loads("a=" + "(".repeat(9) + "1" + ")".repeat(9)), true);
        check.due("10 (", Check.loads("a=" + "(".repeat(10) + "1" + ")".repeat(10)), false);
        check.due("10 LOOPs' worth of PROGRAMs", Check.loads("[1:".repeat(9) + "?a" + "]".repeat(9)), true);
        check.due("11 PROGRAMs", Check.loads("[1:".repeat(10) + "?a" + "]".repeat(10)), false);
        check.due("10 PROGRAMs and a FACTOR behind -", Check.loads("[1:".repeat(9) + "!-a" + "]".repeat(9)), false);
        check.due("the EXPR of the inmost LOOP lies in 9", Check.loads("[1:".repeat(8) + "[-1:?a]" + "]".repeat(8)), true);
        check.due("the EXPR of the inmost LOOP, 2 deep", Check.loads("[1:".repeat(8) + "[--1:?a]" + "]".repeat(8)), false);
        check.due("mixed, 10", Check.loads("[1:{1:a=-(-(-(-1)))|?a}]"), true);
        check.due("mixed, 11", Check.loads("[1:{1:a=-(-(-(-1)))+(-(-(-(-1))))|?a}]"), false);
        check.due("second PROGRAM of a CHOICE", Check.loads("[1:".repeat(8) + "{1:?a|?b}" + "]".repeat(8)), true);
        check.due("second PROGRAM of a CHOICE, 11", Check.loads("[1:".repeat(7) + "{1:?a|{1:?a|[1:?b]}}" + "]".repeat(7)), false);
        check.due("side by side", Check.loads("a=" + "-".repeat(9) + "1" + "*" + "-".repeat(9) + "1+" + "-".repeat(9) + "1"), true);
    }

    private static void rounds(Check check) {
        dueRounds(check, "!1", 1);
        dueRounds(check, "a=0", 1);
        dueRounds(check, "!a;[a:!1]", 1);
        dueRounds(check, "a=1", 2);
        dueRounds(check, "?a", 2);
        dueRounds(check, "a=1;b=a", 2);
        dueRounds(check, "b=a;a=1", 3);
        dueRounds(check, "c=b;b=a;a=1", 4);
        dueRounds(check, "d=c;c=b;b=a;a=1", 5);
        dueRounds(check, "a=a+1", 5);
        dueRounds(check, "b=a;a=a+1", 5);
        dueRounds(check, "c=b;b=d;d=a%9;a=a+9", 5);
        dueRounds(check, "a=a*2", 1);
        dueRounds(check, "j=i;i=h;h=g;g=f;f=e;e=d;d=c;c=b;b=a;a=1", 11);
        // The greatest bounds wander to j in round 10, then the least ones in round 19, then b's and c's greatest.
        dueRounds(check, "j=i;i=h;h=g;g=f;f=e;e=d;d=c;c=b;b=a;a=1-j", 22);
    }

    private static void dueRounds(Check check, String text, int want) {
        BigRunner runner = new BigRunner();
        Check.typeAll(runner, text);
        check.due("rounds of " + text, runner.load(), want);
    }

    private static void beginsAnew(Check check) {
        BigRunner runner = Check.loaded("a=7;!a*2;?b;!1/0");
        runner.run(2);
        runner.give(11);
        runner.give(12);
        Check.typeAll(runner, "!a;?c;b=a");
        runner.load();
        check.due("after a load", Check.everything(runner).substring(0, 14), "1 0 0 0 0 0 2 ");
        for (int i = 0; i < 10; i++) {
            check.due("variable " + i, Check.variable(runner, i), "0");
        }
        check.dueThrow("the old output", IndexOutOfBoundsException.class, () -> runner.output(0, 0));
        check.due("all steps", runner.run(200), 3);
        check.due("the input that stayed", Check.variable(runner, 2), "11");
        Check.typeAll(runner, "!1/0");
        runner.load();
        check.dueThrow("a trap", ArithmeticException.class, () -> runner.run(1));
        Check.typeAll(runner, "a=1");
        runner.load();
        check.due("after a trap and a load", runner.look(0), 1);
        check.due("no trap is left", runner.look(1), 0);
        check.due("the other input", runner.look(6), 1);
    }

    private static void lineIsEmptyThen(Check check) {
        BigRunner runner = Check.loaded("a=1");
        check.dueThrow("load of the empty line", IllegalArgumentException.class, runner::load);
        check.due("the program is still there", runner.run(200), 1);
        Check.typeAll(runner, "b=2");
        runner.load();
        runner.run(200);
        check.due("b", Check.variable(runner, 1), "2");
        check.due("a", Check.variable(runner, 0), "0");
    }

    private static void refusedChangesNothing(Check check) {
        BigRunner runner = Check.loaded("a=3;b=a*a;!b;[a:!a*1000000;a=a-1];?c");
        runner.give(5);
        runner.run(6);
        String before = Check.everything(runner);
        Check.typeAll(runner, "a=1;[b:?c;d=(1");
        check.dueThrow("load", IllegalArgumentException.class, runner::load);
        check.due("all after a refused load", Check.everything(runner), before);
        check.due("the rest of the steps", runner.run(200), 8);
        check.due("c", Check.variable(runner, 2), "5");
        Check.typeAll(runner, ")]");
        check.due("load of the line made whole", runner.load(), 2);
    }
}
