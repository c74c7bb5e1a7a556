/** PROGRAM and EXPR: each sentence that names an edge of the text, on both sides of it. */
public final class EdgesOfProgramTest {
    // Looked at by the LOOPs and CHOICEs below, SMALL ones and others.
    private static final String WIDE_1 = "b=1;[0:b=b+1;b=b-1];";

    public static void main(String[] args) {
        Check check = new Check();
        statements(check);
        names(check);
        assignments(check);
        inputs(check);
        outputs(check);
        loops(check);
        loopsAbove0(check);
        choices(check);
        choicesAbove0(check);
        exprs(check);
        terms(check);
        numbers(check);
        factors(check);
        deepPrograms(check);
        deepParentheses(check);
        deepMinuses(check);
        deepMixtures(check);
        check.end("EdgesOfProgramTest");
    }

    private static void right(Check check, String... texts) {
        for (String text : texts) {
            check.due("load of " + text, Check.loads(text), true);
        }
    }

    private static void wrong(Check check, String... texts) {
        for (String text : texts) {
            check.due("load of " + text, Check.loads(text), false);
        }
    }

    private static void dueOutput(Check check, String text, String want) {
        check.due("the first output of " + text, Check.output(Check.ran(text), 0), want);
    }

    private static void statements(Check check) {
        check.sentence("PROGRAM: STATEMENTs with ; between");
        right(check, "!1", "!1;!2", "!1;!2;!3", "?a;".repeat(23) + "?a", "[a:?a];".repeat(10) + "?a");
        wrong(check, "", ";", "!1;", ";!1", "!1;;!2", "!1!2", "!1,!2", "!1:!2", "!1|!2", "?a?b", "a=1b=2", "[1:?a]?b",
                "{1:?a|?b}?c", "?a;".repeat(23) + "?a;", "[a:?a];".repeat(10), "!1]", "!1}", "!1)", "!1|", "!1:");
        BigRunner most = Check.loaded("?a;".repeat(22) + "?b;!b");
        for (int i = 1; i <= 23; i++) {
            most.give(i);
            most.run(1);
        }
        check.due("the step after 23 INPUTs", most.run(200), 1);
        check.due("what the last of 23 INPUTs took", Check.output(most, 0), "23");
    }

    private static void names(Check check) {
        check.sentence("a name a .. j");
        for (char name = 'a'; name <= 'j'; name++) {
            BigRunner assigned = Check.ran(name + "=" + (name - 'a' + 1));
            BigRunner given = Check.ran("?" + name, 5);
            BigRunner used = Check.ran(name + "=6;!" + name);
            for (int i = 0; i < 10; i++) {
                boolean isIt = i == name - 'a';
                check.due("variable " + i + " after " + name + "=", Check.variable(assigned, i), isIt ? "" + (i + 1) : "0");
                check.due("variable " + i + " after ?" + name, Check.variable(given, i), isIt ? "5" : "0");
            }
            check.due("!" + name, Check.output(used, 0), "6");
        }
        for (char name : new char[] {'a' - 1, 'j' + 1, 'z', 'A', 'J', '{', '@', '_'}) {
            wrong(check, name + "=1", "?" + name, "!" + name, "!1+" + name, "!-" + name, "!(" + name + ")");
        }
    }

    private static void assignments(Check check) {
        check.sentence("a name a .. j, = and an EXPR (ASSIGNMENT)");
        right(check, "a=1", "a=b", "a=a", "a=-a", "a=(1)");
        wrong(check, "a", "a=", "=1", "=", "a1", "ab", "a==1", "a=b=1", "aa=1", "1=a", "a:1", "a+1", "(a)=1", "-a=1", "a-1=1");
    }

    private static void inputs(Check check) {
        check.sentence("? and a name (INPUT)");
        right(check, "?a", "?j", "?a;?a");
        wrong(check, "?", "??", "??a", "?1", "?(a)", "?-a", "?ab", "?a=1", "?a+1", "a?", "?;?a");
    }

    private static void outputs(Check check) {
        check.sentence("! and an EXPR (OUTPUT)");
        right(check, "!0", "!a", "!-1", "!(1)", "!1+1");
        wrong(check, "!", "!!", "!!1", "!?a", "!a=1", "!;!1", "1!", "a!");
    }

    private static void loops(Check check) {
        check.sentence("[ EXPR : PROGRAM ] (LOOP)");
        right(check, "[1:?a]", "[a+1:?a;?b]", "[(1):?a]", "[-1:?a]", "[1:[1:?a]]", "[1:?a];[1:?a]");
        wrong(check, "[", "[]", "[:]", "[1:]", "[:?a]", "[1?a]", "[?a]", "[1:?a", "1:?a]", "[1:?a}", "{1:?a]", "[1:?a]]", "[[1:?a]",
                "[1|?a]", "[1;?a]", "[1:?a;]", "[1:;?a]", "[1:?a|?b]", "[1:1]", "[?a:?a]", "[a=1:?a]", "[1::?a]", "[1:2:?a]",
                "[1:[1:?a]", "[1:?a]!1");
    }

    private static void loopsAbove0(Check check) {
        check.sentence("LOOP: as long as the EXPR is above 0");
        String[] expr = {"-1", "0", "1", "2", "-999999999", "999999999"};
        boolean[] enters = {false, false, true, true, false, true};
        for (int i = 0; i < expr.length; i++) {
            dueOutput(check, "[" + expr[i] + "-c:!5;c=999999999];!6", enters[i] ? "5" : "6");
            dueOutput(check, WIDE_1 + "[(" + expr[i] + ")*b-c:!5;c=999999999];!6", enters[i] ? "5" : "6");
        }
        BigRunner three = Check.ran("a=3;[a:b=b+1;a=a-1]");
        check.due("how often from 3", Check.variable(three, 1), "3");
        check.due("the EXPR at its end", Check.variable(three, 0), "0");
        BigRunner below = Check.ran("a=3;[a:b=b+1;a=a-2]");
        check.due("how often from 3 by 2", Check.variable(below, 1), "2");
        check.due("the EXPR at its end, below 0", Check.variable(below, 0), "-1");
    }

    private static void choices(Check check) {
        check.sentence("{ EXPR : PROGRAM | PROGRAM } (CHOICE)");
        right(check, "{1:?a|?b}", "{a-1:?a;?b|?c;?d}", "{(1):?a|?b}", "{-1:?a|?b}", "{1:{1:?a|?b}|{1:?c|?d}}", "{1:?a|?b};?c");
        wrong(check, "{", "{}", "{1}", "{1:}", "{1:|}", "{1:?a}", "{1:?a|}", "{1:|?a}", "{:?a|?b}", "{?a|?b}", "{1?a|?b}", "{1:?a|?b",
                "1:?a|?b}", "{1:?a|?b]", "[1:?a|?b}", "{1:?a|?b}}", "{{1:?a|?b}", "{1:?a|?b|?c}", "{1:?a||?b}", "{1:?a:?b}",
                "{1|?a|?b}", "{1:?a;|?b}", "{1:;?a|?b}", "{1:?a|;?b}", "{1:?a|?b;}", "{1:?a?b|?c}", "{1:?a|?b}!1", "{1:?a;?b}");
    }

    private static void choicesAbove0(Check check) {
        check.sentence("CHOICE: the first one if the EXPR is above 0, else the second one");
        String[] expr = {"-1", "0", "1", "2", "-999999999", "999999999"};
        boolean[] isFirst = {false, false, true, true, false, true};
        for (int i = 0; i < expr.length; i++) {
            BigRunner narrow = Check.ran("{" + expr[i] + ":!5|!6};!7");
            BigRunner wide = Check.ran(WIDE_1 + "{(" + expr[i] + ")*b:!5|!6};!7");
            for (BigRunner runner : new BigRunner[] {narrow, wide}) {
                check.due("the way at " + expr[i], Check.output(runner, 0), isFirst[i] ? "5" : "6");
                check.due("then, at " + expr[i], Check.output(runner, 1), "7");
                check.due("outputs at " + expr[i], runner.look(5), 2);
            }
        }
    }

    private static void exprs(Check check) {
        check.sentence("EXPR: TERMs with + or - between, from the left");
        dueOutput(check, "!9-5-3", "1");
        dueOutput(check, "!9-5+3", "7");
        dueOutput(check, "!9+5-3", "11");
        dueOutput(check, "!9-(5-3)", "7");
        dueOutput(check, "!9-2*3", "3");
        dueOutput(check, "!9*2-3", "15");
        dueOutput(check, "!9--3", "12");
        dueOutput(check, "!9+-3", "6");
        right(check, "!1+2", "!1-2", "!1--2", "!1+-2", "!1-(2)");
        wrong(check, "!+1", "!1+", "!1-", "!1++2", "!1-+2", "!+", "!-", "!1+;!2", "!1&2", "!1^2", "!1=2", "!1<2");
    }

    private static void terms(Check check) {
        check.sentence("TERM: FACTORs with *, / or % between, from the left");
        dueOutput(check, "!100/7/2", "7");
        dueOutput(check, "!100/7*2", "28");
        dueOutput(check, "!100*7/2", "350");
        dueOutput(check, "!100%7*2", "4");
        dueOutput(check, "!100*7%9", "7");
        dueOutput(check, "!100/7%4", "2");
        dueOutput(check, "!100%40/3", "6");
        dueOutput(check, "!100%40%7", "6");
        dueOutput(check, "!100/(7/2)", "33");
        dueOutput(check, "!100%(40%7)", "0");
        dueOutput(check, "!2*-3", "-6");
        dueOutput(check, "!-2*3", "-6");
        right(check, "!1*2", "!1/2", "!1%2", "!1*-2", "!1/-2", "!1%-2", "!1*(2)");
        wrong(check, "!*1", "!/1", "!%1", "!1*", "!1/", "!1%", "!1**2", "!1//2", "!1%%2", "!1*/2", "!1+*2", "!1*+2", "!(1)(2)", "!2a",
                "!a2", "!ab", "!a(b)", "!(a)b", "!1(2)", "!(1)2");
    }

    private static void numbers(Check check) {
        check.sentence("FACTOR: a number (1 to 9 digits)");
        dueOutput(check, "!0", "0");
        dueOutput(check, "!9", "9");
        dueOutput(check, "!12345678", "12345678");
        dueOutput(check, "!123456789", "123456789");
        dueOutput(check, "!999999999", "999999999");
        dueOutput(check, "!000000000", "0");
        dueOutput(check, "!000000001", "1");
        dueOutput(check, "!010", "10");
        dueOutput(check, "!123456789+1", "123456790");
        wrong(check, "!1234567890", "!0000000001", "!0000000000", "!9999999999", "a=1234567890", "!-1234567890", "!(1234567890)",
                "!1+1234567890", "!1234567890+1", "[1234567890:?a]", "!12345678901234567890", "!1.0", "!0x1", "!1_0", "!1e1");
        // The neighbours of the digits: / is 47 and : is 58.
        wrong(check, "!/", "!:", "!1:", "!1/");
    }

    private static void factors(Check check) {
        check.sentence("FACTOR: a name, - and a FACTOR, ( EXPR )");
        right(check, "!a", "!-a", "!--a", "!-(a)", "!(-a)", "!(a+b)", "!((a))", "!(a)*(b)", "!-1*-1", "!-(1+2)");
        wrong(check, "!-", "!--", "!-+1", "!-*1", "!()", "!(", "!)", "!(1", "!1)", "!((1)", "!(1))", "!)1(", "!(;1)", "!(?a)", "!(!1)",
                "!(a=1)", "!-)", "!(-)", "!(1+)", "![1]", "!{1}", "!(1]", "!(1}");
        dueOutput(check, "!-2+3", "1");
        dueOutput(check, "!-(2+3)", "-5");
        dueOutput(check, "!--2", "2");
    }

    private static String nested(String open, int times, String inmost, String close) {
        return open.repeat(times) + inmost + close.repeat(times);
    }

    private static void deepPrograms(Check check) {
        check.sentence("At most 10 PROGRAMs lie inside one another");
        right(check, nested("[1:", 9, "?a", "]"), nested("{1:", 9, "?a", "|?b}"), nested("{1:?b|", 9, "?a", "}"));
        wrong(check, nested("[1:", 10, "?a", "]"), nested("{1:", 10, "?a", "|?b}"), nested("{1:?b|", 10, "?a", "}"));
        wrong(check, nested("[1:", 10, "", "]"), nested("{1:", 10, "", "|?b}"), nested("{1:?b|", 10, "", "}"));
        // The second PROGRAM of a CHOICE lies beside the first one, and what follows a LOOP beside its PROGRAM.
        right(check, nested("[1:", 8, "{1:?a|?b}", "]"), nested("[1:", 7, "[1:[1:?a]];[1:[1:?b]]", "]"));
        wrong(check, nested("[1:", 8, "{1:?a|[1:?b]}", "]"), nested("[1:", 8, "{1:[1:?b]|?a}", "]"));
        wrong(check, nested("[1:", 7, "[1:?a];[1:[1:[1:?b]]]", "]"));
    }

    private static void deepParentheses(Check check) {
        check.sentence("At most 10 EXPRs in ( ) lie inside one another, the PROGRAM being one");
        right(check, "!" + nested("(", 9, "1", ")"), "!" + nested("(1+", 9, "1", ")"), "!" + nested("(", 9, "1", "*2)"));
        wrong(check, "!" + nested("(", 10, "1", ")"), "!" + nested("(1+", 10, "1", ")"), "!" + nested("(", 10, "1", "*2)"));
        String nine = nested("(", 9, "1", ")");
        right(check, "!" + nine + "+" + nine + "*" + nine, "a=" + nine, "[" + nine + ":?a]", "{" + nine + ":?a|?b}");
        wrong(check, "!" + nine + "*(" + nine + ")", "!1-(" + nine + ")", "[(" + nine + "):?a]", "{(" + nine + "):?a|?b}");
    }

    private static void deepMinuses(Check check) {
        check.sentence("At most 10 FACTORs behind - lie inside one another, the PROGRAM being one");
        String nine = "-".repeat(9) + "1";
        right(check, "!" + nine, "!" + nine + "*" + nine + "/" + nine, "!" + nine + "-" + nine, "[" + nine + ":?a]");
        wrong(check, "!-" + nine, "!1*-" + nine, "!1--" + nine, "[-" + nine + ":?a]", "!" + "-".repeat(60) + "1");
        dueOutput(check, "!" + nine, "-1");
        dueOutput(check, "!1-" + nine, "2");
    }

    private static void deepMixtures(Check check) {
        check.sentence("At most 10 PROGRAMs, EXPRs in ( ) and FACTORs behind - lie inside one another");
        for (int programs = 1; programs <= 10; programs++) {
            String minuses = "-".repeat(10 - programs) + "1";
            String brackets = nested("(", 10 - programs, "1", ")");
            right(check, nested("[1:", programs - 1, "!" + minuses, "]"), nested("[1:", programs - 1, "!" + brackets, "]"));
            wrong(check, nested("[1:", programs - 1, "!-" + minuses, "]"), nested("[1:", programs - 1, "!(" + brackets + ")", "]"));
        }
        // The EXPR of a LOOP or CHOICE lies beside its PROGRAMs, not inside them.
        right(check, nested("[1:", 8, "[-1:?a]", "]"), nested("[1:", 8, "{(1):?a|?b}", "]"), nested("[1:", 8, "!1;!-1", "]"));
        wrong(check, nested("[1:", 8, "[--1:?a]", "]"), nested("[1:", 8, "{(-1):?a|?b}", "]"), nested("[1:", 8, "[1:!-1]", "]"));
        right(check, "!-(-(-(-(-1))))", "!(-(-(-(-(1)))))");
        wrong(check, "!-(-(-(-(-(1)))))", "!(-(-(-(-(-1)))))");
    }
}
