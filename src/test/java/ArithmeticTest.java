import java.math.BigInteger;
import java.util.ArrayList;
import java.util.List;
import java.util.Random;

/** Long numbers of all lengths, with many limbs of 0 or just below a power of ten, against BigInteger. */
public final class ArithmeticTest {
    // d and e are put together from inputs, f is 10 to the 9th.
    private static final String PROGRAM = "?a;?f;[a:?b;?c;d=d*f+b;e=e*f+c;a=a-1];!d+e;!d-e;!-d;!d/e;!d%e;!d*e";
    private static final BigInteger TOO_LONG = BigInteger.TEN.pow(120);
    private static final int BASE = 1000000000;
    private static final int[] LIMBS = {0, 0, 1, BASE - 1, BASE - 1, BASE - 2, BASE / 2, BASE / 2 - 1, 999};

    public static void main(String[] args) {
        Check check = new Check();
        Random random = new Random(7);
        for (int i = 0; i < 40000; i++) {
            BigInteger d = number(random, random.nextInt(15));
            BigInteger e = number(random, random.nextInt(random.nextBoolean() ? 15 : 3));
            pair(check, d, e);
        }
        for (int i = 0; i < 20000; i++) {
            // A dividend next to a multiple of the divisor.
            BigInteger e = number(random, 1 + random.nextInt(7));
            BigInteger d = e.multiply(number(random, 1 + random.nextInt(6))).add(BigInteger.valueOf(random.nextInt(3) - 1));
            pair(check, d, e);
        }
        check.end("ArithmeticTest");
    }

    private static BigInteger number(Random random, int limbs) {
        BigInteger number = BigInteger.ZERO;
        for (int i = 0; i < limbs; i++) {
            int limb = random.nextInt(3) == 0 ? random.nextInt(BASE) : LIMBS[random.nextInt(LIMBS.length)];
            if (limbs == 14 && i == 0) {
                limb %= 1000;
            }
            number = number.multiply(BigInteger.valueOf(BASE)).add(BigInteger.valueOf(limb));
        }
        return random.nextBoolean() ? number : number.negate();
    }

    private static void pair(Check check, BigInteger d, BigInteger e) {
        BigRunner runner = Check.loaded(PROGRAM);
        runner.give(14);
        runner.give(BASE);
        for (int i = 13; i >= 0; i--) {
            runner.give(limb(d, i));
            runner.give(limb(e, i));
            if (i > 0) {
                runner.run(200);
            }
        }
        int trap = 0;
        try {
            runner.run(200);
        } catch (ArithmeticException x) {
            trap = 1;
        } catch (UnsupportedOperationException x) {
            trap = 2;
        }
        String pair = d + " and " + e + ": ";
        List<BigInteger> due = new ArrayList<>();
        check.due(pair + "trap", trap, outputs(d, e, due));
        check.due(pair + "outputs", runner.look(5), due.size());
        for (int i = 0; i < due.size() && i < runner.look(5); i++) {
            check.due(pair + "output " + i, Check.output(runner, i), due.get(i).toString());
        }
    }

    private static int limb(BigInteger number, int place) {
        return number.divide(BigInteger.valueOf(BASE).pow(place)).remainder(BigInteger.valueOf(BASE)).intValueExact();
    }

    /** Fills in the outputs that are due, up to the trap that it answers. */
    private static int outputs(BigInteger d, BigInteger e, List<BigInteger> due) {
        for (BigInteger output : new BigInteger[] {d.add(e), d.subtract(e), d.negate()}) {
            if (output.abs().compareTo(TOO_LONG) >= 0) {
                return 2;
            }
            due.add(output);
        }
        if (e.signum() == 0) {
            return 1;
        }
        due.add(d.divide(e));
        due.add(d.remainder(e));
        if (d.multiply(e).abs().compareTo(TOO_LONG) >= 0) {
            return 2;
        }
        due.add(d.multiply(e));
        return 0;
    }
}
