/** What the tests share: a line typed in one go, answers compared, exceptions named. */
final class Check {
    /** A call whose exception is of interest. */
    interface Call {
        long answer();
    }

    private int asked = 0;
    private int wrong = 0;

    void due(String what, long got, long want) {
        asked++;
        if (got != want) {
            wrong++;
            System.out.println(what + " answered " + got + ", due is " + want);
        }
    }

    void due(String what, boolean got, boolean want) {
        due(what, got ? 1 : 0, want ? 1 : 0);
    }

    void due(String what, String got, String want) {
        asked++;
        if (!got.equals(want)) {
            wrong++;
            System.out.println(what + " answered " + got + ", due is " + want);
        }
    }

    /** The simple name of the exception must be the one that is due, of that very class. */
    void dueThrow(String what, Class<?> want, Call call) {
        String got;
        try {
            got = "the answer " + call.answer();
        } catch (RuntimeException e) {
            got = e.getClass().getSimpleName();
        }
        due(what, got, want.getSimpleName());
    }

    /** Tells how it went and ends the program with 1 if an answer was wrong. */
    void end(String test) {
        System.out.println(test + ": " + asked + " answers, " + wrong + " wrong");
        if (wrong != 0 || asked == 0) {
            System.exit(1);
        }
    }

    static void typeAll(BigRunner runner, String text) {
        for (int i = 0; i < text.length(); i++) {
            if (!runner.type(text.charAt(i))) {
                throw new AssertionError("refused at " + i + " of " + text);
            }
        }
    }

    static BigRunner loaded(String text) {
        BigRunner runner = new BigRunner();
        typeAll(runner, text);
        runner.load();
        return runner;
    }

    /** A new object with the program, the numbers given, after a run of at most 200 steps, trapped or not. */
    static BigRunner ran(String text, int... numbers) {
        BigRunner runner = loaded(text);
        for (int number : numbers) {
            runner.give(number);
        }
        try {
            runner.run(200);
        } catch (ArithmeticException | UnsupportedOperationException e) {
            return runner;
        }
        return runner;
    }

    static String variable(BigRunner runner, int index) {
        StringBuilder text = new StringBuilder();
        for (int k = runner.variable(index, -2) - 1; k >= 0; k--) {
            text.append(runner.variable(index, k));
        }
        return runner.variable(index, -1) < 0 ? "-" + text : text.toString();
    }

    static String output(BigRunner runner, int index) {
        StringBuilder text = new StringBuilder();
        for (int k = runner.output(index, -2) - 1; k >= 0; k--) {
            text.append(runner.output(index, k));
        }
        return runner.output(index, -1) < 0 ? "-" + text : text.toString();
    }

    /** All that can be asked of an object without changing it, in one text. */
    static String everything(BigRunner runner) {
        StringBuilder text = new StringBuilder();
        for (int what = 0; what <= 6; what++) {
            text.append(runner.look(what)).append(' ');
        }
        if (runner.look(0) == 0) {
            return text.toString();
        }
        for (int i = 0; i < 10; i++) {
            text.append(variable(runner, i)).append(' ').append(bounds(runner, i)).append(' ');
        }
        for (int i = 0; i < Math.min(12, runner.look(5)); i++) {
            text.append(output(runner, i)).append(' ');
        }
        return text.toString();
    }

    static String bounds(BigRunner runner, int index) {
        return side(runner, index, false) + ".." + side(runner, index, true);
    }

    private static String side(BigRunner runner, int index, boolean greatest) {
        try {
            return Long.toString(runner.bound(index, greatest));
        } catch (UnsupportedOperationException e) {
            return "U";
        }
    }
}
