import java.math.BigInteger;
import java.util.ArrayList;
import java.util.List;
import java.util.Random;

/** Long numbers of all lengths, with many limbs of 0 or just below a power of ten, against BigInteger. */
public final class ArithmeticTest {
    // d and e are put together from inputs, f is 10 to the 9th.
    private static final String PROGRAM = "?a;?f;[a:?b;?c;d=d*f+b;e=e*f+c;a=a-1];!d+e;!d-e;!-d;!d/e;!d%e;!d*e";
    private static final BigInteger TOO_LONG = BigInteger.TEN.pow(120);
    private static final int BASE = 1000000000;
    // Two INPUTs, three ASSIGNMENTs, the last look of the LOOP, six OUTPUTs.
    private static final int STEPS_OF_LAST_RUN = 12;
    private static final int[] LIMBS = {0, 0, 1, BASE - 1, BASE - 1, BASE - 2, BASE / 2, BASE / 2 - 1, 999};

    public static void main(String[] args) {
        Check check = new Check();
        Random random = new Random(7);
        for (int i = 0; i < 40000; i++) {
            BigInteger d = number(random, random.nextInt(15));
            BigInteger e = number(random, random.nextInt(random.nextBoolean() ? 15 : 3));
            pair(check, d, e);
        }
        for (int i = 0; i < 20000; i++) {
            // A dividend next to a multiple of the divisor.
            BigInteger e = number(random, 1 + random.nextInt(7));
            BigInteger d = e.multiply(number(random, 1 + random.nextInt(6))).add(BigInteger.valueOf(random.nextInt(3) - 1));
            pair(check, d, e);
        }
        check.end("ArithmeticTest");
    }

    private static BigInteger number(Random random, int limbs) {
        BigInteger number = BigInteger.ZERO;
        for (int i = 0; i < limbs; i++) {
            int limb = random.nextInt(3) == 0 ? random.nextInt(BASE) : LIMBS[random.nextInt(LIMBS.length)];
            if (limbs == 14 && i == 0) {
                limb %= 1000;
            }
            number = number.multiply(BigInteger.valueOf(BASE)).add(BigInteger.valueOf(limb));
        }
        return random.nextBoolean() ? number : number.negate();
    }

    private static void pair(Check check, BigInteger d, BigInteger e) {
        Replay replay = new Replay();
        replay.typeAll(PROGRAM);
        replay.change(BigRunner::load);
        give(replay, 14);
        give(replay, BASE);
        for (int i = 13; i > 0; i--) {
            give(replay, limb(d, i));
            give(replay, limb(e, i));
            replay.change(runner -> runner.run(200));
        }
        give(replay, limb(d, 0));
        give(replay, limb(e, 0));
        String pair = d + " and " + e + ": ";
        List<BigInteger> due = new ArrayList<>();
        check.due(pair + "the last run", replay.change(runner -> runner.run(200)), outputs(d, e, due));
        int outputs = replay.forCalls(1).look(5);
        check.due(pair + "outputs", outputs, due.size());
        for (int i = 0; i < due.size() && i < outputs; i++) {
            check.due(pair + "output " + i, replay.output(i), due.get(i).toString());
        }
    }

    private static void give(Replay replay, int number) {
        replay.change(runner -> runner.give(number) ? 1 : 0);
    }

    private static int limb(BigInteger number, int place) {
        return number.divide(BigInteger.valueOf(BASE).pow(place)).remainder(BigInteger.valueOf(BASE)).intValueExact();
    }

    /** Fills in the outputs that are due, up to a trap, and answers what the last run does. */
    private static String outputs(BigInteger d, BigInteger e, List<BigInteger> due) {
        for (BigInteger output : new BigInteger[] {d.add(e), d.subtract(e), d.negate()}) {
            if (output.abs().compareTo(TOO_LONG) >= 0) {
                return "UnsupportedOperationException";
            }
            due.add(output);
        }
        if (e.signum() == 0) {
            return "ArithmeticException";
        }
        due.add(d.divide(e));
        due.add(d.remainder(e));
        if (d.multiply(e).abs().compareTo(TOO_LONG) >= 0) {
            return "UnsupportedOperationException";
        }
        due.add(d.multiply(e));
        return Integer.toString(STEPS_OF_LAST_RUN);
    }
}
