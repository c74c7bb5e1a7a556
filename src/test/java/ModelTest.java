import java.util.ArrayList;
import java.util.List;
import java.util.Random;

/** Promises 4 to 11 on programs made at random, the same ones each time, against the Model. */
public final class ModelTest {
    private static final int PROGRAMS = 20000;
    private static final int PROGRAMS_AN_OBJECT = 4;
    private static final int NEAR_PROGRAMS = 40000;

    private static final int[] states = new int[5];
    private static final int[] traps = new int[4];

    public static void main(String[] args) {
        Check check = new Check();
        Random random = new Random(20261115);
        Texts texts = new Texts(random);
        BigRunner runner = new BigRunner();
        for (int i = 0; i < PROGRAMS; i++) {
            if (i % PROGRAMS_AN_OBJECT == 0) {
                runner = new BigRunner();
            }
            oneProgram(check, runner, texts.program(), random);
        }
        int programs = 0;
        for (int i = 0; i < NEAR_PROGRAMS; i++) {
            String text = texts.nearProgram();
            int due = roundsOfModel(text);
            programs += due > 0 ? 1 : 0;
            check.due("load of " + text, rounds(new BigRunner(), text), due);
        }
        System.out.println("of the texts nearly programs " + programs + " are; states " + java.util.Arrays.toString(states)
                + ", traps " + java.util.Arrays.toString(traps));
        check.end("ModelTest");
    }

    private static int roundsOfModel(String text) {
        try {
            return new Model(text).rounds;
        } catch (IllegalArgumentException e) {
            return 0;
        }
    }

    private static int rounds(BigRunner runner, String text) {
        Check.typeAll(runner, text);
        try {
            return runner.load();
        } catch (IllegalArgumentException e) {
            return 0;
        }
    }

    /** The object may have had other programs; the numbers that wait are taken off first. */
    private static void oneProgram(Check check, BigRunner runner, String text, Random random) {
        takeAll(runner);
        int rounds = roundsOfModel(text);
        check.due("load of " + text, rounds(runner, text), rounds);
        if (rounds == 0) {
            runner.wipe();
            return;
        }
        Model model = new Model(text);
        List<Integer> given = new ArrayList<>();
        int longest = random.nextInt(3) == 0 ? 200 : 9;
        for (int call = 0; call < 24; call++) {
            if (random.nextInt(3) > 0) {
                give(runner, given, random);
            }
            model.goTo(model.steps, given);
            check.due(text + " before call " + call, Check.everything(runner), model.everything());
            oneRun(check, text, runner, model, given, 1 + random.nextInt(longest));
            if (model.state > 2) {
                check.dueThrow(text + " is over", IllegalStateException.class, () -> runner.run(1));
                break;
            }
        }
        states[model.state]++;
        traps[model.trap]++;
    }

    private static void takeAll(BigRunner runner) {
        if (runner.look(6) > 0) {
            Check.typeAll(runner, "[1:?a]");
            runner.load();
            runner.run(200);
        }
    }

    private static void give(BigRunner runner, List<Integer> given, Random random) {
        int number = random.nextInt(2) == 0 ? random.nextInt(9) - 3 : random.nextInt(2000000001) - 1000000000;
        if (runner.give(number)) {
            given.add(number);
        }
    }

    private static void oneRun(Check check, String text, BigRunner runner, Model model, List<Integer> given, int n) {
        int before = model.steps;
        model.goTo(before + n, given);
        String due = model.trap == 0
                ? Integer.toString(model.steps - before)
                : model.trap == 1 ? "ArithmeticException" : "UnsupportedOperationException";
        String got;
        try {
            got = Integer.toString(runner.run(n));
        } catch (RuntimeException e) {
            got = e.getClass().getSimpleName();
        }
        check.due(text + " run(" + n + ") after " + before, got, due);
        check.due(text + " after " + (before + n), Check.everything(runner), model.everything());
    }
}
