import java.util.ArrayList;
import java.util.List;
import java.util.Random;

/** Promises 4 to 11 on programs made at random, the same ones each time, against the Model. */
public final class ModelTest {
    private static final int PROGRAMS = 20000;
    private static final int NEAR_PROGRAMS = 40000;

    private static final int[] states = new int[5];
    private static final int[] traps = new int[4];

    public static void main(String[] args) {
        Check check = new Check();
        Random random = new Random(20261115);
        Texts texts = new Texts(random);
        for (int i = 0; i < PROGRAMS; i++) {
            Replay replay = new Replay();
            if (i % 2 == 0) {
                anotherProgram(replay, texts.program(), random);
            }
            oneProgram(check, replay, texts.program(), random);
        }
        int programs = 0;
        for (int i = 0; i < NEAR_PROGRAMS; i++) {
            String text = texts.nearProgram();
            String due = roundsOfModel(text);
            programs += due.length() < 3 ? 1 : 0;
            Replay replay = new Replay();
            replay.typeAll(text);
            check.due("load of " + text, replay.change(BigRunner::load), due);
        }
        System.out.println("of the texts nearly programs " + programs + " are; states " + java.util.Arrays.toString(states)
                + ", traps " + java.util.Arrays.toString(traps));
        check.end("ModelTest");
    }

    private static String roundsOfModel(String text) {
        try {
            return Integer.toString(new Model(text).rounds);
        } catch (IllegalArgumentException e) {
            return "IllegalArgumentException";
        }
    }

    /** Leaves what it will in the object, but no number that waits and no line. */
    private static void anotherProgram(Replay replay, String text, Random random) {
        replay.typeAll(text);
        replay.change(BigRunner::load);
        for (int i = 0; i < 3; i++) {
            give(replay, new ArrayList<>(), random);
            int n = 1 + random.nextInt(200);
            replay.change(runner -> runner.run(n));
        }
        replay.change(runner -> {
            runner.wipe();
            return 0;
        });
        replay.typeAll("[1:?a]");
        replay.change(BigRunner::load);
        replay.change(runner -> runner.run(200));
    }

    private static void oneProgram(Check check, Replay replay, String text, Random random) {
        replay.typeAll(text);
        String rounds = roundsOfModel(text);
        check.due("load of " + text, replay.change(BigRunner::load), rounds);
        if (rounds.equals("IllegalArgumentException")) {
            return;
        }
        Model model = new Model(text);
        List<Integer> given = new ArrayList<>();
        check.due(text + " at its beginning", replay.everything(), model.everything());
        int longest = random.nextInt(3) == 0 ? 200 : 9;
        for (int call = 0; call < 24; call++) {
            if (random.nextInt(3) > 0) {
                give(replay, given, random);
                model.goTo(model.steps, given);
                check.due(text + " with numbers before call " + call, replay.forCalls(1).look(0), model.state);
            }
            oneRun(check, text, replay, model, given, 1 + random.nextInt(longest));
            if (model.state > 2) {
                check.due(text + " is over", replay.change(runner -> runner.run(1)), "IllegalStateException");
                break;
            }
        }
        states[model.state]++;
        traps[model.trap]++;
    }

    private static void give(Replay replay, List<Integer> given, Random random) {
        int number = random.nextInt(2) == 0 ? random.nextInt(9) - 3 : random.nextInt(2000000001) - 1000000000;
        if (replay.change(runner -> runner.give(number) ? 1 : 0).equals("1")) {
            given.add(number);
        }
    }

    private static void oneRun(Check check, String text, Replay replay, Model model, List<Integer> given, int n) {
        int before = model.steps;
        model.goTo(before + n, given);
        String due = model.trap == 0
                ? Integer.toString(model.steps - before)
                : model.trap == 1 ? "ArithmeticException" : "UnsupportedOperationException";
        check.due(text + " run(" + n + ") after " + before, replay.change(runner -> runner.run(n)), due);
        check.due(text + " after " + (before + n), replay.everything(), model.everything());
    }
}
