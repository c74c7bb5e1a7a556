/** Promise 1: an empty line, no program, no inputs. */
public final class NewObjectTest {
    public static void main(String[] args) {
        Check check = new Check();
        BigRunner runner = new BigRunner();
        for (int what = 0; what <= 6; what++) {
            check.due("look(" + what + ")", runner.look(what), 0);
        }
        check.dueThrow("run(1)", IllegalStateException.class, () -> runner.run(1));
        check.dueThrow("load()", IllegalArgumentException.class, runner::load);
        check.dueThrow("bound(0, true)", IndexOutOfBoundsException.class, () -> runner.bound(0, true));
        check.due("small(0)", runner.small(0), false);
        check.dueThrow("variable(0, -1)", IndexOutOfBoundsException.class, () -> runner.variable(0, -1));
        check.dueThrow("output(0, -1)", IndexOutOfBoundsException.class, () -> runner.output(0, -1));
        Check.typeAll(runner, "a=1");
        check.due("load() of what was typed alone", runner.load(), 2);
        objectsAreApart(check);
        check.end("NewObjectTest");
    }

    private static void objectsAreApart(Check check) {
        BigRunner one = Check.ran("?a;!a", 7);
        BigRunner other = new BigRunner();
        other.give(3);
        check.due("the other's program", other.look(0), 0);
        check.due("the one's inputs", one.look(6), 0);
        check.due("the one's output", Check.output(one, 0), "7");
    }
}
