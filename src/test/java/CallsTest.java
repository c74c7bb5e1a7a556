import java.math.BigInteger;
import java.util.ArrayList;
import java.util.List;
import java.util.Random;

/** Promises 1 to 11: calls of all kinds at random, 512 on each object, at the edges more often, against the Model. */
public final class CallsTest {
    private static final int OBJECTS = 1500;
    private static final int CALLS = 512;
    private static final int[] EDGES = {
        -3, -2, -1, 0, 1, 2, 5, 6, 7, 8, 9, 10, 11, 12, 13, 17, 18, 119, 120, 199, 200, 201, 999999999, 1000000000, 1000000001,
        -999999999, -1000000000, -1000000001, Integer.MIN_VALUE, Integer.MAX_VALUE,
    };

    private final Random random;
    private final Texts texts;
    private final Check check;
    private final BigRunner runner = new BigRunner();
    private int calls = 0;
    private int loads = 0;

    // What the object should hold.
    private final StringBuilder line = new StringBuilder();
    private Model model = null;
    private List<Integer> given = new ArrayList<>();
    private int taken = 0;

    private CallsTest(Check check, Random random) {
        this.check = check;
        this.random = random;
        this.texts = new Texts(random);
    }

    public static void main(String[] args) {
        Check check = new Check();
        Random random = new Random(512);
        int loads = 0;
        for (int i = 0; i < OBJECTS; i++) {
            CallsTest test = new CallsTest(check, random);
            while (test.calls < CALLS) {
                test.something();
            }
            loads += test.loads;
        }
        check.due("enough of " + loads + " programs", loads > 4 * OBJECTS, true);
        check.end("CallsTest");
    }

    private int edge() {
        return EDGES[random.nextInt(EDGES.length)];
    }

    /** A call whose answer, or the name of its exception, must be the one that is due. */
    private void call(String what, String due, Check.Call call) {
        if (calls >= CALLS) {
            return;
        }
        calls++;
        String got;
        try {
            got = Long.toString(call.answer());
        } catch (RuntimeException e) {
            got = e.getClass().getSimpleName();
        }
        check.due(what + " in call " + calls, got, due);
    }

    private static String number(boolean answer) {
        return answer ? "1" : "0";
    }

    private void something() {
        switch (random.nextInt(16)) {
            case 0:
                typeText();
                load();
                break;
            case 1:
                type((char) random.nextInt(random.nextBoolean() ? 130 : 65536));
                break;
            case 2:
                if (random.nextInt(4) == 0) {
                    load();
                }
                break;
            case 3:
                wipe();
                break;
            case 4, 5, 6:
                give(random.nextBoolean() ? random.nextInt(12) - 2 : edge());
                break;
            case 7, 8, 9:
                run(random.nextInt(4) == 0 ? edge() : 1 + random.nextInt(random.nextBoolean() ? 9 : 200));
                break;
            default:
                ask();
                break;
        }
    }

    private void typeText() {
        if (random.nextInt(4) > 0) {
            wipe();
        }
        String text = random.nextInt(4) == 0 ? texts.nearProgram() : texts.program();
        for (int i = 0; i < text.length(); i++) {
            type(text.charAt(i));
        }
    }

    private void type(char c) {
        boolean due = c >= 33 && c <= 126 && line.length() < 72;
        if (calls < CALLS && due) {
            line.append(c);
        }
        call("type(" + (int) c + ")", number(due), () -> runner.type(c) ? 1 : 0);
    }

    private void wipe() {
        line.setLength(0);
        call("wipe()", "0", () -> {
            runner.wipe();
            return 0;
        });
    }

    private void load() {
        String text = line.toString();
        call("load() of " + text, dueOfLoad(text), runner::load);
    }

    private String dueOfLoad(String text) {
        try {
            model = new Model(text);
        } catch (IllegalArgumentException e) {
            return "IllegalArgumentException";
        }
        given = new ArrayList<>(given.subList(taken, given.size()));
        taken = 0;
        model.goTo(0, given);
        line.setLength(0);
        loads++;
        return Integer.toString(model.rounds);
    }

    private void give(int number) {
        boolean due = number >= -1000000000 && number <= 1000000000 && given.size() - taken < 20;
        if (due) {
            given.add(number);
            if (model != null && model.state == 2) {
                model.goTo(model.steps, given);
            }
        }
        call("give(" + number + ")", number(due), () -> runner.give(number) ? 1 : 0);
    }

    private void run(int n) {
        call("run(" + n + ")", dueOfRun(n), () -> runner.run(n));
    }

    private String dueOfRun(int n) {
        if (model == null || model.state > 2) {
            return "IllegalStateException";
        }
        if (n < 1 || n > 200) {
            return "IllegalArgumentException";
        }
        int before = model.steps;
        model.goTo(before + n, given);
        taken = model.taken;
        if (model.trap == 0) {
            return Integer.toString(model.steps - before);
        }
        return model.trap == 1 ? "ArithmeticException" : "UnsupportedOperationException";
    }

    private void ask() {
        int which = random.nextInt(4) == 0 ? edge() : random.nextInt(10);
        int k = random.nextBoolean() ? edge() : random.nextInt(10) - 2;
        boolean has = model != null && which >= 0 && which < 10;
        switch (random.nextInt(5)) {
            case 0:
                call("look(" + which + ")", Integer.toString(dueOfLook(which)), () -> runner.look(which));
                break;
            case 1:
                boolean greatest = random.nextBoolean();
                String bound = has ? model.bounds(which).split("\\.\\.")[greatest ? 1 : 0] : "IndexOutOfBoundsException";
                String due = bound.equals("U") ? "UnsupportedOperationException" : bound;
                call("bound(" + which + ", " + greatest + ")", due, () -> runner.bound(which, greatest));
                break;
            case 2:
                boolean isSmall = has && !model.bounds(which).contains("U");
                call("small(" + which + ")", number(isSmall), () -> runner.small(which) ? 1 : 0);
                break;
            case 3:
                String told = has ? dueOfDigits(model.variables[which], k) : "IndexOutOfBoundsException";
                call("variable(" + which + ", " + k + ")", told, () -> runner.variable(which, k));
                break;
            default:
                boolean isKept = model != null && which >= 0 && which < Math.min(12, model.outputs.size());
                String put = isKept ? dueOfDigits(model.outputs.get(which), k) : "IndexOutOfBoundsException";
                call("output(" + which + ", " + k + ")", put, () -> runner.output(which, k));
                break;
        }
    }

    private int dueOfLook(int what) {
        if (what < 0 || what > 6) {
            return -1;
        }
        if (what == 6) {
            return given.size() - taken;
        }
        if (model == null) {
            return 0;
        }
        return new int[] {model.state, model.trap, model.steps, model.machine, model.wide, model.outputs.size()}[what];
    }

    private static String dueOfDigits(BigInteger value, int k) {
        String digits = value.abs().toString();
        if (k < -2) {
            return "IndexOutOfBoundsException";
        }
        if (k < 0) {
            return Integer.toString(k == -1 ? value.signum() : digits.length());
        }
        return k < digits.length() ? digits.substring(digits.length() - 1 - k, digits.length() - k) : "0";
    }
}
