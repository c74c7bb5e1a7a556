/**
 * INTERVALS, ROUNDS and the interval of each kind of EXPR: each sentence that names an edge, on both
 * sides of it. The intervals are those of j, U stands for UNBOUNDED.
 */
public final class EdgesOfIntervalsTest {
    private static final long LIMIT = 1L << 60;
    // In the first ROUND: a from 0 to LIMIT.
    private static final String TOP = "b=32768*32768;a=b*b;";
    // In the first ROUND: a from -LIMIT to 0.
    private static final String BOTTOM = "b=32768*32768;a=-b*b;";
    // In the first ROUND: a from 0 to UNBOUNDED; no join makes it so.
    private static final String UP = "b=32768*32768;a=b*b+1;";
    // In the first ROUND: a from UNBOUNDED to 0.
    private static final String DOWN = "b=32768*32768;a=-b*b-1;";
    // c from -3 to 7.
    private static final String SOME = "c=7;c=-3;";

    public static void main(String[] args) {
        Check check = new Check();
        limitOfSums(check);
        limitOfDifferences(check);
        limitOfProducts(check);
        limitOfNegations(check);
        limitOfQuotientsAndRests(check);
        limitOnTheWay(check);
        atFirst(check);
        afterOtherPrograms(check);
        forTheWholeProgram(check);
        inputs(check);
        joined(check);
        inTheOrderOfTheText(check);
        fourthRound(check);
        fourthRoundDownward(check);
        oneSideAlone(check);
        untilOneMovesNone(check);
        manyRounds(check);
        numbers(check);
        negations(check);
        sums(check);
        differences(check);
        products(check);
        productsWith0(check);
        productsUnbounded(check);
        quotients(check);
        quotientsUnbounded(check);
        rests(check);
        restsOfLesserOnes(check);
        restsNotBelow0(check);
        restsUnbounded(check);
        check.end("EdgesOfIntervalsTest");
    }

    private static void due(Check check, String text, long least, long greatest) {
        check.due("j in " + text, Check.bounds(Check.loaded(text), 9), least + ".." + greatest);
    }

    private static void dueU(Check check, String text, String want) {
        check.due("j in " + text, Check.bounds(Check.loaded(text), 9), want);
    }

    private static void dueRounds(Check check, String text, int want) {
        BigRunner runner = new BigRunner();
        Check.typeAll(runner, text);
        check.due("ROUNDS of " + text, runner.load(), want);
    }

    private static void limitOfSums(Check check) {
        check.sentence("a bound is a whole number from -LIMIT to LIMIT, LIMIT being 2 to the 60th (+)");
        due(check, TOP + "j=a+0", 0, LIMIT);
        dueU(check, TOP + "j=a+1", "0..U");
        dueU(check, TOP + "j=1+a", "0..U");
        dueU(check, TOP + "j=a+a", "0..U");
        due(check, TOP + "j=a+-1", -1, LIMIT - 1);
        due(check, BOTTOM + "j=a+0", -LIMIT, 0);
        dueU(check, BOTTOM + "j=a+-1", "U..0");
        dueU(check, BOTTOM + "j=-1+a", "U..0");
        dueU(check, BOTTOM + "j=a+a", "U..0");
        due(check, BOTTOM + "j=a+1", 1 - LIMIT, 1);
        due(check, TOP + "c=a;c=-a;j=c+0", -LIMIT, LIMIT);
        dueU(check, TOP + "c=a;c=-a;j=c+1", (1 - LIMIT) + "..U");
        dueU(check, TOP + "c=a;c=-a;j=c+-1", "U.." + (LIMIT - 1));
        // The least bound beyond LIMIT, the greatest one beyond -LIMIT.
        dueU(check, TOP + "c=999999999*999999999;j=(c+1)+(c+1)", "0..U");
        dueU(check, "j=999999999*999999999+999999999*999999999", "U..U");
        dueU(check, "j=-999999999*999999999+-999999999*999999999", "U..U");
    }

    private static void limitOfDifferences(Check check) {
        check.sentence("a bound is a whole number from -LIMIT to LIMIT (-)");
        due(check, TOP + "j=a-0", 0, LIMIT);
        dueU(check, TOP + "j=a--1", "0..U");
        due(check, TOP + "j=a-1", -1, LIMIT - 1);
        due(check, TOP + "j=0-a", -LIMIT, 0);
        dueU(check, TOP + "j=-1-a", "U..0");
        due(check, TOP + "j=1-a", 1 - LIMIT, 1);
        dueU(check, BOTTOM + "j=a-1", "U..0");
        due(check, BOTTOM + "j=0-a", 0, LIMIT);
        dueU(check, BOTTOM + "j=1-a", "0..U");
        due(check, TOP + "j=a-a", -LIMIT, LIMIT);
        dueU(check, TOP + "j=a-(a+-1)", "-" + (LIMIT - 1) + "..U");
        dueU(check, "j=999999999*999999999--999999999*999999999", "U..U");
        dueU(check, "j=-999999999*999999999-999999999*999999999", "U..U");
    }

    private static void limitOfProducts(Check check) {
        check.sentence("a bound is a whole number from -LIMIT to LIMIT (*)");
        due(check, "b=32768*32768;j=b*b", 0, LIMIT);
        due(check, "b=32768*32768;j=-b*b", -LIMIT, 0);
        due(check, "b=32768*32768;j=b*-b", -LIMIT, 0);
        due(check, "b=32768*32768;j=-b*-b", 0, LIMIT);
        // 252707057 * 4562284561 is 2 to the 60th and 1 more.
        dueU(check, "b=999999999*4+562284565;j=b*252707057", "0..U");
        dueU(check, "b=999999999*4+562284565;j=252707057*b", "0..U");
        dueU(check, "b=999999999*4+562284565;j=b*-252707057", "U..0");
        dueU(check, "b=999999999*4+562284565;j=-b*252707057", "U..0");
        due(check, "b=999999999*4+562284564;j=b*252707057", 0, LIMIT + 1 - 252707057);
        due(check, TOP + "j=a*1", 0, LIMIT);
        due(check, TOP + "j=a*-1", -LIMIT, 0);
        dueU(check, TOP + "j=a*2", "0..U");
        dueU(check, TOP + "j=-2*a", "U..0");
        // What a long would wrap around to lies within LIMIT: 2 to the 64th, 2 to the 120th.
        dueU(check, TOP + "j=a*16", "0..U");
        dueU(check, TOP + "j=a*-16", "U..0");
        dueU(check, TOP + "j=a*a", "0..U");
        dueU(check, TOP + "j=-a*a", "U..0");
        dueU(check, TOP + "c=a;c=-a;j=c*a", "U..U");
        dueU(check, "j=999999999*999999999*2", "U..U");
        dueU(check, "j=-2*999999999*999999999", "U..U");
    }

    private static void limitOfNegations(Check check) {
        check.sentence("a bound is a whole number from -LIMIT to LIMIT (- of a FACTOR)");
        due(check, TOP + "j=-a", -LIMIT, 0);
        due(check, BOTTOM + "j=-a", 0, LIMIT);
        due(check, TOP + "j=--a", 0, LIMIT);
        dueU(check, TOP + "j=-(a+1)", "U..0");
        dueU(check, BOTTOM + "j=-(a-1)", "0..U");
    }

    private static void limitOfQuotientsAndRests(Check check) {
        check.sentence("a bound is a whole number from -LIMIT to LIMIT (/ and %)");
        due(check, TOP + "j=a/1", -LIMIT, LIMIT);
        due(check, BOTTOM + "j=a/1", -LIMIT, LIMIT);
        dueU(check, TOP + "j=(a+1)/1", "U..U");
        dueU(check, BOTTOM + "j=(a-1)/1", "U..U");
        due(check, TOP + "j=a%a", 0, LIMIT - 1);
        due(check, BOTTOM + "j=a%a", 1 - LIMIT, LIMIT - 1);
        due(check, TOP + "j=a%(a+1)", 0, LIMIT);
        due(check, BOTTOM + "j=a%(a-1)", -LIMIT, LIMIT);
        due(check, TOP + "j=(a+1)%a", 0, LIMIT - 1);
    }

    private static void limitOnTheWay(Check check) {
        check.sentence("a bound that would lie beyond LIMIT (or comes from one that is UNBOUNDED) is UNBOUNDED");
        dueU(check, TOP + "j=a+1-1", "0..U");
        dueU(check, TOP + "j=a+1-a", "-" + (LIMIT - 1) + "..U");
        dueU(check, BOTTOM + "j=a-1+1", "U..0");
        dueU(check, TOP + "c=a+1;j=c-9", "-9..U");
        dueU(check, TOP + "c=-a-1;j=c+9", "U..9");
        dueU(check, TOP + "j=a*2/2", "U..U");
    }

    private static void atFirst(Check check) {
        check.sentence("At first all are 0 to 0");
        BigRunner runner = Check.loaded("!a;[b:!c];{d:!e|!f}");
        for (int i = 0; i < 10; i++) {
            check.due("bounds of variable " + i, Check.bounds(runner, i), "0..0");
        }
        due(check, "j=5", 0, 5);
        due(check, "j=-5", -5, 0);
        due(check, "j=5;j=9", 0, 9);
        due(check, "j=-5;j=-9", -9, 0);
        String other = "a=5;b=-5;?c;d=d+1;e=e-1;f=9;g=9;h=9;i=9;j=9";
        for (int times = 1; times <= 4; times++) {
            BigRunner again = new BigRunner();
            for (int i = 0; i < times; i++) {
                Check.typeAll(again, other);
                check.due("load of the other one", again.load(), 5);
            }
            Check.typeAll(again, "!1");
            check.due("load after " + times, again.load(), 1);
            for (int i = 0; i < 10; i++) {
                check.due("bounds of variable " + i + " after " + times, Check.bounds(again, i), "0..0");
            }
        }
    }

    /** Whatever was loaded before, in the same object and perhaps of the same form, the bounds are the same. */
    private static void afterOtherPrograms(Check check) {
        check.sentence("At first all are 0 to 0 (whatever was loaded before)");
        String[] texts = {
            "j=5*7", "j=5*0", "j=0*7", "j=i*7", "j=5%7", "j=5%0", "j=-5%7", "j=5/7", "j=0/7", "j=5+7", "j=5-7", "j=j*7", "j=j+7", "j=j-7",
            "?j", "?i;j=i*7", "?i;j=i*0", "j=7", "j=-7", "!j",
        };
        for (String before : texts) {
            for (String text : texts) {
                BigRunner runner = new BigRunner();
                for (String next : new String[] {before, before, text, text}) {
                    Check.typeAll(runner, next);
                    runner.load();
                    String due = Check.bounds(Check.loaded(next), 9);
                    check.due("j in " + next + ", among " + before + " and " + text, Check.bounds(runner, 9), due);
                }
            }
        }
    }

    private static void forTheWholeProgram(Check check) {
        check.sentence("each variable has one for the whole program; all ASSIGNMENTs and INPUTs");
        due(check, "[0:j=4]", 0, 4);
        due(check, "{0:j=4|j=-6}", -6, 4);
        due(check, "{1:j=4|j=-6}", -6, 4);
        due(check, "[0:[0:{0:j=1|{0:j=2|j=-3}}]];j=-1", -3, 2);
        due(check, "[0:?j]", -1000000000, 1000000000);
        due(check, "!1/0;j=8", 0, 8);
        due(check, "i=4;j=i;i=-9", -9, 4);
        // Neither OUTPUTs nor what is looked at joins anything.
        due(check, "j=1;!j+5;[j+7:!j+9];{j-5:!1|!2}", 0, 1);
        BigRunner runner = Check.loaded("j=3;i=j;j=-4");
        for (int step = 0; step <= 3; step++) {
            check.due("j after " + step + " steps", Check.bounds(runner, 9), "-4..3");
            if (step < 3) {
                runner.run(1);
            }
        }
    }

    private static void inputs(Check check) {
        check.sentence("of an INPUT: -1000000000 to 1000000000");
        due(check, "?j", -1000000000, 1000000000);
        due(check, "j=999999999+1;?j;j=-999999999-1", -1000000000, 1000000000);
        due(check, "j=999999999+2;?j", -1000000000, 1000000001);
        due(check, "?j;j=-999999999-2", -1000000001, 1000000000);
        dueRounds(check, "?j", 2);
        BigRunner runner = Check.loaded("?j");
        runner.give(3);
        check.due("j when 3 was given", Check.bounds(runner, 9), "-1000000000..1000000000");
    }

    private static void joined(Check check) {
        check.sentence("JOINED: the lesser of the least, the greater of the greatest bounds");
        due(check, "j=5;j=4", 0, 5);
        due(check, "j=4;j=5", 0, 5);
        due(check, "j=-5;j=-4", -5, 0);
        due(check, "j=-4;j=-5", -5, 0);
        due(check, "j=5;j=-5;j=1", -5, 5);
        due(check, "j=0", 0, 0);
        due(check, "i=5;i=-2;j=3;j=-4;j=i", -4, 5);
        due(check, "i=2;i=-5;j=3;j=-4;j=i", -5, 3);
        dueU(check, UP + "j=a;j=-3;j=5", "-3..U");
        dueU(check, DOWN + "j=a;j=-3;j=5", "U..5");
        dueU(check, UP + "j=a;j=-a", "U..U");
    }

    private static void inTheOrderOfTheText(Check check) {
        check.sentence("A ROUND goes through all ASSIGNMENTs and INPUTs in the order of the text");
        dueRounds(check, "a=1;b=a;c=b;d=c;e=d", 2);
        dueRounds(check, "b=a;a=1", 3);
        dueRounds(check, "c=b;b=a;a=1", 4);
        dueRounds(check, "c=b;a=1;b=a", 3);
        dueRounds(check, "b=a;?a", 3);
        dueRounds(check, "?a;b=a", 2);
        dueRounds(check, "[b:b=a];a=1", 3);
        dueRounds(check, "[b:a=1];b=a", 2);
        dueRounds(check, "{0:b=a|a=1}", 3);
        dueRounds(check, "{0:a=1|b=a}", 2);
    }

    private static void fourthRound(Check check) {
        check.sentence("From the fourth ROUND on a bound that a join moves becomes UNBOUNDED at once");
        BigRunner chain = Check.loaded("f=e;e=d;d=c;c=b;b=a;a=5");
        String[] due = {"0..5", "0..5", "0..5", "0..U", "0..U", "0..U"};
        for (int i = 0; i < due.length; i++) {
            check.due("what moves in ROUND " + (i + 1), Check.bounds(chain, i), due[i]);
        }
        due(check, "j=(j+1)%3", 0, 2);
        due(check, "j=(j+1)%4", 0, 3);
        dueU(check, "j=(j+1)%5", "0..U");
        dueU(check, "j=j+1", "0..U");
        dueRounds(check, "j=(j+1)%3", 3);
        dueRounds(check, "j=(j+1)%4", 4);
        dueRounds(check, "j=(j+1)%5", 5);
        dueRounds(check, "j=j+1", 5);
        // What does not move in the fourth ROUND stays.
        due(check, "d=c;c=b;b=a;a=5;j=7", 0, 7);
        // Moved in the fifth ROUND, in the sixth and in the seventh, each time by an EXPR that is bounded.
        dueU(check, "j=d%10;d=c;c=b;b=a;a=5", "0..U");
        dueU(check, "j=e%10;e=d;d=c;c=b;b=a;a=5", "0..U");
        dueU(check, "j=f%10;f=e;e=d;d=c;c=b;b=a;a=5", "0..U");
        // Moved in the third, by an EXPR that is bounded.
        due(check, "j=b%10;b=a;a=50", 0, 9);
    }

    private static void fourthRoundDownward(Check check) {
        check.sentence("From the fourth ROUND on a bound that a join moves becomes UNBOUNDED at once (the least one)");
        BigRunner chain = Check.loaded("f=e;e=d;d=c;c=b;b=a;a=-5");
        String[] due = {"-5..0", "-5..0", "-5..0", "U..0", "U..0", "U..0"};
        for (int i = 0; i < due.length; i++) {
            check.due("what moves in ROUND " + (i + 1), Check.bounds(chain, i), due[i]);
        }
        due(check, "j=(j-1)%3", -2, 2);
        due(check, "j=(j-1)%4", -3, 3);
        dueU(check, "j=(j-1)%5", "U..U");
        dueU(check, "j=j-1", "U..0");
        dueU(check, "j=d%10;d=c;c=b;b=a;a=-5", "U..U");
        dueU(check, "j=0-d%10;d=c;c=b;b=a;a=5", "U..0");
        dueU(check, "j=0-e%10;e=d;d=c;c=b;b=a;a=5", "U..0");
        due(check, "j=0-b%10;b=a;a=50", -9, 0);
        dueRounds(check, "j=(j-1)%4", 4);
        dueRounds(check, "j=(j-1)%5", 5);
        dueRounds(check, "j=j-1", 5);
    }

    private static void oneSideAlone(Check check) {
        check.sentence("or UNBOUNDED on its side");
        dueU(check, "j=j+1;j=-7", "-7..U");
        dueU(check, "j=j-1;j=7", "U..7");
        dueU(check, "d=c;c=b;b=a;a=5;j=d;j=-2", "-2..U");
        dueU(check, "d=c;c=b;b=a;a=-5;j=d;j=2", "U..2");
        BigRunner up = Check.loaded("j=j+1;j=-7");
        check.due("the least bound", up.bound(9, false), -7);
        check.dueThrow("the greatest bound", UnsupportedOperationException.class, () -> up.bound(9, true));
        BigRunner down = Check.loaded("j=j-1;j=7");
        check.due("the greatest bound", down.bound(9, true), 7);
        check.dueThrow("the least bound", UnsupportedOperationException.class, () -> down.bound(9, false));
    }

    private static void untilOneMovesNone(Check check) {
        check.sentence("ROUNDS are made until one moves none (that one counts)");
        dueRounds(check, "!1", 1);
        dueRounds(check, "!a+1;[b:!2];{c:!3|!4}", 1);
        dueRounds(check, "a=0", 1);
        dueRounds(check, "a=a", 1);
        dueRounds(check, "a=5*0", 1);
        dueRounds(check, "a=5%1", 1);
        dueRounds(check, "a=1", 2);
        dueRounds(check, "a=-1", 2);
        dueRounds(check, "a=1;a=-1;a=1", 2);
        dueRounds(check, UP + "c=a", 2);
        dueRounds(check, DOWN + "c=a", 2);
        dueRounds(check, "c=a;" + UP + "d=1", 3);
    }

    private static void manyRounds(Check check) {
        check.sentence("ROUNDS are made until one moves none (however many they are)");
        String text = "a=1";
        for (int i = 1; i < 10; i++) {
            text = (char) ('a' + i) + "=" + (char) ('a' + i - 1) + ";" + text;
            dueRounds(check, text, i + 2);
        }
        // The greatest bounds reach j in ROUND 10; then the least ones wander, then the greatest of b and c.
        dueRounds(check, text.replace("a=1", "a=1-j"), 22);
        dueRounds(check, text.replace("a=1", "a=-1-j"), 22);
    }

    private static void numbers(Check check) {
        check.sentence("The interval of a number is it alone");
        due(check, "j=0", 0, 0);
        due(check, "j=1", 0, 1);
        due(check, "j=999999999", 0, 999999999);
        due(check, "j=000000007", 0, 7);
        due(check, "j=7-5", 0, 2);
        due(check, "j=5-7", -2, 0);
        due(check, "j=7-7", 0, 0);
    }

    private static void negations(Check check) {
        check.sentence("of -x: turned about");
        due(check, SOME + "j=-c", -7, 3);
        due(check, SOME + "j=--c", -3, 7);
        due(check, SOME + "j=-(c+5)", -12, 0);
        due(check, SOME + "j=-(c+5)+7", -5, 5);
        due(check, "j=-0", 0, 0);
        dueU(check, UP + "j=-a", "U..0");
        dueU(check, DOWN + "j=-a", "0..U");
        dueU(check, UP + "j=--a", "0..U");
        dueU(check, DOWN + "j=--a", "U..0");
        dueU(check, UP + "c=a;c=-a;j=-c", "U..U");
    }

    private static void sums(Check check) {
        check.sentence("of x + y: least and least, greatest and greatest, as one adds");
        due(check, SOME + "d=20;d=-10;j=c+d", -13, 27);
        due(check, SOME + "d=20;d=-10;j=d+c", -13, 27);
        due(check, SOME + "j=c+c", -6, 14);
        dueU(check, UP + SOME + "j=a+c", "-3..U");
        dueU(check, UP + SOME + "j=c+a", "-3..U");
        dueU(check, DOWN + SOME + "j=a+c", "U..7");
        dueU(check, DOWN + SOME + "j=c+a", "U..7");
        dueU(check, UP + "j=a+a", "0..U");
        dueU(check, DOWN + "j=a+a", "U..0");
        dueU(check, UP + "j=a+-a", "U..U");
        dueRounds(check, UP + SOME + "j=a+c", 2);
    }

    private static void differences(Check check) {
        check.sentence("x - y as x + -y");
        due(check, SOME + "d=20;d=-10;j=c-d", -23, 17);
        due(check, SOME + "d=20;d=-10;j=d-c", -17, 23);
        due(check, SOME + "j=c-c", -10, 10);
        dueU(check, UP + SOME + "j=a-c", "-7..U");
        dueU(check, UP + SOME + "j=c-a", "U..7");
        dueU(check, DOWN + SOME + "j=a-c", "U..3");
        dueU(check, DOWN + SOME + "j=c-a", "-3..U");
        dueU(check, UP + "j=a-a", "U..U");
        dueU(check, DOWN + "j=a-a", "U..U");
        dueU(check, UP + "j=a--a", "0..U");
        dueU(check, DOWN + "j=a--a", "U..0");
        dueRounds(check, UP + SOME + "j=a-c", 2);
    }

    private static void products(Check check) {
        check.sentence("of x * y: the least and the greatest of the four products of bounds");
        // a from 0 to 3, b from 0 to 4; each of the four products is once the least and once the greatest one.
        String some = "a=3;b=4;";
        due(check, some + "j=(a+2)*(b+3)-20", 6 - 20, 35 - 20);
        due(check, some + "j=(a+2)*(b-7)+20", 20 - 35, 20 - 6);
        due(check, some + "j=(a-5)*(b+3)+20", 20 - 35, 20 - 6);
        due(check, some + "j=(a-5)*(b-7)-20", 6 - 20, 35 - 20);
        due(check, "a=5;a=-2;" + SOME + "j=a*c", -15, 35);
        due(check, "a=2;a=-5;" + SOME + "j=a*c", -35, 15);
        due(check, "a=2;a=-5;" + SOME + "j=a*-c", -15, 35);
        due(check, SOME + "j=c*c", -21, 49);
        due(check, SOME + "j=c*2", -6, 14);
        due(check, SOME + "j=-2*c", -14, 6);
        due(check, SOME + "j=c*1", -3, 7);
        due(check, SOME + "j=c*-1", -7, 3);
        due(check, "?i;j=i*i", -1000000000000000000L, 1000000000000000000L);
    }

    private static void productsWith0(Check check) {
        check.sentence("but with *, if one of both is 0 to 0: 0 to 0");
        for (String start : new String[] {UP, DOWN, SOME + "a=7;", "a=a+1;", "?a;a=a*a*a;", UP + "d=a;a=-d;"}) {
            due(check, start + "j=a*0", 0, 0);
            due(check, start + "j=0*a", 0, 0);
            due(check, start + "j=a*i", 0, 0);
            due(check, start + "j=i*a", 0, 0);
            due(check, start + "j=a*(5-5)", 0, 0);
            due(check, start + "j=-0*a", 0, 0);
            due(check, start + "j=a*0+5", 0, 5);
            due(check, start + "j=a*0-5", -5, 0);
        }
        due(check, "j=0*0", 0, 0);
        due(check, "j=i*i", 0, 0);
    }

    private static void productsUnbounded(Check check) {
        check.sentence("else, if any bound is UNBOUNDED, both are");
        for (String start : new String[] {UP, DOWN}) {
            dueU(check, start + "j=a*1", "U..U");
            dueU(check, start + "j=1*a", "U..U");
            dueU(check, start + "j=a*-1", "U..U");
            dueU(check, start + "j=-1*a", "U..U");
            dueU(check, start + "j=a*a", "U..U");
            dueU(check, start + "i=1;j=a*i", "U..U");
            dueU(check, start + "i=-1;j=i*a", "U..U");
            dueU(check, start + "c=a;c=-a;j=c*2", "U..U");
            dueRounds(check, start + "j=a*1", 2);
        }
    }

    private static void quotients(Check check) {
        check.sentence("Of x / y: from -m to m, m the greater absolute value of the bounds of x");
        due(check, "a=5;a=-12;j=a/9", -12, 12);
        due(check, "a=12;a=-5;j=a/9", -12, 12);
        due(check, "a=12;a=-12;j=a/9", -12, 12);
        due(check, "a=4;j=(a+3)/9", -7, 7);
        due(check, "a=4;j=(a-7)/9", -7, 7);
        due(check, "j=7/7", -7, 7);
        due(check, "j=-7/1", -7, 7);
        due(check, "j=0/7", 0, 0);
        due(check, "j=1/7", -1, 1);
        // y does not matter.
        due(check, "j=7/0", -7, 7);
        due(check, "j=7/i", -7, 7);
        due(check, UP + "j=7/a", -7, 7);
        due(check, DOWN + "j=7/a", -7, 7);
        due(check, UP + "j=0/a", 0, 0);
        due(check, "?i;j=i/2", -1000000000, 1000000000);
    }

    private static void quotientsUnbounded(Check check) {
        check.sentence("UNBOUNDED if one of them is (x / y)");
        dueU(check, UP + "j=a/2", "U..U");
        dueU(check, DOWN + "j=a/2", "U..U");
        dueU(check, UP + "j=a/a", "U..U");
        dueU(check, UP + "c=a;c=-9;j=c/2", "U..U");
        dueU(check, DOWN + "c=a;c=9;j=c/2", "U..U");
        dueU(check, UP + "j=a/0", "U..U");
        dueRounds(check, UP + "j=a/2", 2);
    }

    private static void rests(Check check) {
        check.sentence("m is at most the greater absolute value of the bounds of y less 1 (not below 0)");
        due(check, "j=100%7", 0, 6);
        due(check, "j=100%-7", 0, 6);
        due(check, "a=9;a=-5;j=100%a", 0, 8);
        due(check, "a=5;a=-9;j=100%a", 0, 8);
        due(check, "a=4;j=100%(a+3)", 0, 6);
        due(check, "a=4;j=100%(a-7)", 0, 6);
        due(check, "j=100%3", 0, 2);
        due(check, "j=100%2", 0, 1);
        due(check, "j=100%1", 0, 0);
        due(check, "j=100%-1", 0, 0);
        due(check, "j=100%0", 0, 0);
        due(check, "j=100%i", 0, 0);
        due(check, "j=-100%2", -1, 1);
        due(check, "j=-100%1", 0, 0);
        due(check, "j=-100%0", 0, 0);
        due(check, "j=100%0+5", 0, 5);
        due(check, "j=100%0-5", -5, 0);
        due(check, "j=-100%0+5", 0, 5);
        due(check, "j=-100%0-5", -5, 0);
        due(check, "j=100%7-3", -3, 3);
        due(check, "j=100%7-6", -6, 0);
        due(check, "?i;j=(999999999*9)%i", 0, 999999999);
    }

    private static void restsOfLesserOnes(Check check) {
        check.sentence("Of x % y: like x / y, but m is at most ..");
        due(check, "j=0%7", 0, 0);
        due(check, "j=1%7", 0, 1);
        due(check, "j=5%7", 0, 5);
        due(check, "j=6%7", 0, 6);
        due(check, "j=7%7", 0, 6);
        due(check, "j=8%7", 0, 6);
        due(check, "j=-5%7", -5, 5);
        due(check, "j=-6%7", -6, 6);
        due(check, "j=-7%7", -6, 6);
        due(check, "a=2;a=-5;j=a%7", -5, 5);
        due(check, "a=5;a=-2;j=a%7", -5, 5);
        due(check, "a=5;a=-2;j=a%5", -4, 4);
    }

    private static void restsNotBelow0(Check check) {
        check.sentence("and not below 0, if x is not");
        due(check, "a=9;j=a%7", 0, 6);
        due(check, "a=9;a=-1;j=a%7", -6, 6);
        due(check, "a=9;j=(a+1)%7", 0, 6);
        due(check, "a=9;j=(a-1)%7", -6, 6);
        due(check, "a=-9;j=a%7", -6, 6);
        due(check, "a=-1;j=a%7", -1, 1);
        due(check, "j=-9%7", -6, 6);
        due(check, "j=-1%7", -1, 1);
        // Whether y is below 0 does not matter.
        due(check, "a=9;j=a%-7", 0, 6);
        due(check, "a=-9;j=a%-7", -6, 6);
        due(check, UP + "j=a%7", 0, 6);
        dueU(check, UP + "j=(a-1)%7", "-6..6");
        due(check, DOWN + "j=a%7", -6, 6);
    }

    private static void restsUnbounded(Check check) {
        check.sentence("UNBOUNDED if one of them is; m is at most .., if none of them is UNBOUNDED (x % y)");
        due(check, UP + "j=5%a", 0, 5);
        due(check, DOWN + "j=5%a", 0, 5);
        due(check, UP + "j=-5%a", -5, 5);
        due(check, DOWN + "j=-5%a", -5, 5);
        due(check, UP + "c=a;c=-2;j=9%c", 0, 9);
        due(check, DOWN + "c=a;c=2;j=9%c", 0, 9);
        due(check, UP + "j=a%0", 0, 0);
        due(check, DOWN + "j=a%0", 0, 0);
        due(check, UP + "j=a%b", 0, (1L << 30) - 1);
        due(check, DOWN + "j=a%b", 1 - (1L << 30), (1L << 30) - 1);
        dueU(check, UP + "j=a%a", "0..U");
        dueU(check, DOWN + "j=a%a", "U..U");
        dueU(check, UP + "j=a%-a", "0..U");
        dueU(check, UP + "j=-a%a", "U..U");
        dueU(check, UP + "c=a;c=-2;j=c%a", "U..U");
        dueU(check, DOWN + "c=a;c=2;j=c%a", "U..U");
        dueRounds(check, UP + "j=a%a", 2);
    }
}
