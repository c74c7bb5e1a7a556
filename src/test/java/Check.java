import java.math.BigInteger;

/** What the tests share: a line typed in one go, answers compared, exceptions named. */
final class Check {
    /** A call whose exception is of interest. */
    interface Call {
        long answer();
    }

    private int asked = 0;
    private int wrong = 0;
    private int sentences = 0;
    private String sentence = "";

    /** What is asked from here on is asked for this sentence of the document. */
    void sentence(String words) {
        sentences++;
        sentence = "\"" + words + "\": ";
    }

    void due(String what, long got, long want) {
        due(what, Long.toString(got), Long.toString(want));
    }

    void due(String what, boolean got, boolean want) {
        due(what, got ? 1 : 0, want ? 1 : 0);
    }

    void due(String what, String got, String want) {
        asked++;
        if (!got.equals(want)) {
            wrong++;
            System.out.println(sentence + what + " answered " + got + ", due is " + want);
        }
    }

    /** The simple name of the exception must be the one that is due, of that very class. */
    void dueThrow(String what, Class<?> want, Call call) {
        String got;
        try {
            got = "the answer " + call.answer();
        } catch (RuntimeException e) {
            got = e.getClass().getSimpleName();
        }
        due(what, got, want.getSimpleName());
    }

    /** Tells how it went and ends the program with 1 if an answer was wrong. */
    void end(String test) {
        String ofSentences = sentences == 0 ? "" : " on " + sentences + " sentences";
        System.out.println(test + ": " + asked + " answers" + ofSentences + ", " + wrong + " wrong");
        if (wrong != 0 || asked == 0) {
            System.exit(1);
        }
    }

    static void typeAll(BigRunner runner, String text) {
        for (int i = 0; i < text.length(); i++) {
            if (!runner.type(text.charAt(i))) {
                throw new AssertionError("refused at " + i + " of " + text);
            }
        }
    }

    /** Whether a new object loads the text. */
    static boolean loads(String text) {
        BigRunner runner = new BigRunner();
        typeAll(runner, text);
        try {
            return runner.load() > 0;
        } catch (IllegalArgumentException e) {
            return false;
        }
    }

    static BigRunner loaded(String text) {
        BigRunner runner = new BigRunner();
        typeAll(runner, text);
        runner.load();
        return runner;
    }

    /** A new object with the program, the numbers given, after a run of at most 200 steps, trapped or not. */
    static BigRunner ran(String text, int... numbers) {
        BigRunner runner = loaded(text);
        for (int number : numbers) {
            runner.give(number);
        }
        try {
            runner.run(200);
        } catch (ArithmeticException | UnsupportedOperationException e) {
            return runner;
        }
        return runner;
    }

    /** A new object in which b, which is not SMALL, has the value when the end of the program begins. */
    static BigRunner withB(BigInteger value, String end) {
        BigRunner runner = loaded("?f;?b;?a;[a:?c;b=b*f+c;a=a-1];" + end);
        BigInteger base = BigInteger.valueOf(1000000000);
        runner.give(1000000000);
        runner.give(value.divide(base.pow(13)).intValueExact());
        runner.give(13);
        for (int place = 12; place >= 0; place--) {
            runner.give(value.divide(base.pow(place)).remainder(base).intValueExact());
        }
        runner.run(3 + 13 * 4 + 1);
        return runner;
    }

    static String variable(BigRunner runner, int index) {
        StringBuilder text = new StringBuilder();
        for (int k = runner.variable(index, -2) - 1; k >= 0; k--) {
            text.append(runner.variable(index, k));
        }
        return runner.variable(index, -1) < 0 ? "-" + text : text.toString();
    }

    static String output(BigRunner runner, int index) {
        StringBuilder text = new StringBuilder();
        for (int k = runner.output(index, -2) - 1; k >= 0; k--) {
            text.append(runner.output(index, k));
        }
        return runner.output(index, -1) < 0 ? "-" + text : text.toString();
    }

    /** All that can be asked of an object without changing it, in one text. */
    static String everything(BigRunner runner) {
        StringBuilder text = new StringBuilder();
        for (int what = 0; what <= 6; what++) {
            text.append(runner.look(what)).append(' ');
        }
        if (runner.look(0) == 0) {
            return text.toString();
        }
        for (int i = 0; i < 10; i++) {
            text.append(variable(runner, i)).append(' ').append(bounds(runner, i)).append(' ');
        }
        for (int i = 0; i < Math.min(12, runner.look(5)); i++) {
            text.append(output(runner, i)).append(' ');
        }
        return text.toString();
    }

    static String bounds(BigRunner runner, int index) {
        return side(runner, index, false) + ".." + side(runner, index, true);
    }

    private static String side(BigRunner runner, int index, boolean greatest) {
        try {
            return Long.toString(runner.bound(index, greatest));
        } catch (UnsupportedOperationException e) {
            return "U";
        }
    }
}
