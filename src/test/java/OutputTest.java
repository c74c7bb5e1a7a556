/** Promise 11: output. */
public final class OutputTest {
    public static void main(String[] args) {
        Check check = new Check();
        BigRunner none = new BigRunner();
        BigRunner some = Check.ran("!12;!-3;!0;a=9;!a*a*a;a=5;[0:b=b+1];!b-a");
        String[] due = {"12", "-3", "0", "729", "-5"};
        for (int i = 0; i < due.length; i++) {
            check.due("output " + i, Check.output(some, i), due[i]);
            check.due("its sign", some.output(i, -1), Integer.signum(Integer.parseInt(due[i])));
            check.due("its digits", some.output(i, -2), due[i].replace("-", "").length());
            check.due("behind its highest", some.output(i, 3), 0);
            check.due("far behind its highest", some.output(i, Integer.MAX_VALUE), 0);
        }
        for (int i : new int[] {-1, 5, 11, 12, Integer.MIN_VALUE, Integer.MAX_VALUE}) {
            for (int k : new int[] {-3, -2, -1, 0, 7}) {
                check.dueThrow("output(" + i + ", " + k + ")", IndexOutOfBoundsException.class, () -> some.output(i, k));
                check.dueThrow("no program", IndexOutOfBoundsException.class, () -> none.output(i, k));
            }
        }
        for (int k : new int[] {-3, -4, Integer.MIN_VALUE}) {
            check.dueThrow("output(0, " + k + ")", IndexOutOfBoundsException.class, () -> some.output(0, k));
        }
        onlyTwelve(check);
        check.end("OutputTest");
    }

    private static void onlyTwelve(Check check) {
        BigRunner runner = Check.loaded("a=100;[a:!a;a=a-1]");
        runner.run(3);
        check.dueThrow("the second one", IndexOutOfBoundsException.class, () -> runner.output(1, 0));
        runner.run(200);
        for (int i = 0; i < 12; i++) {
            check.due("output " + i, Check.output(runner, i), Integer.toString(100 - i));
        }
        check.dueThrow("the thirteenth", IndexOutOfBoundsException.class, () -> runner.output(12, 0));
        check.due("they are counted all", runner.look(5), 67);
        Check.typeAll(runner, "a=1");
        runner.load();
        check.dueThrow("after a load", IndexOutOfBoundsException.class, () -> runner.output(0, 0));
    }
}
