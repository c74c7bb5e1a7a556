/** THE LINE and promises 1 to 3: each sentence that names an edge, on both sides of it. */
public final class EdgesOfLineTest {
    // 72 characters, each of which counts: it puts out 36.
    private static final String FULL = "!1" + "+1".repeat(35);

    public static void main(String[] args) {
        Check check = new Check();
        codes(check);
        atMost72(check);
        refusedTakesNoRoom(check);
        emptyLineOfANewObject(check);
        noProgramInANewObject(check);
        noInputsInANewObject(check);
        wipeOfEveryLength(check);
        wipeOfTheLineAlone(check);
        lineAfterLoad(check);
        lineAfterARefusedLoad(check);
        usedFor512Calls(check);
        check.end("EdgesOfLineTest");
    }

    private static void codes(Check check) {
        check.sentence("codes 33 .. 126");
        check.due("type of code 32", new BigRunner().type((char) 32), false);
        check.due("type of code 33", new BigRunner().type((char) 33), true);
        check.due("type of code 126", new BigRunner().type((char) 126), true);
        check.due("type of code 127", new BigRunner().type((char) 127), false);
        check.due("type of code 0", new BigRunner().type((char) 0), false);
        check.due("type of code 65535", new BigRunner().type((char) 65535), false);
        // Codes whose lower half would be one that is taken.
        check.due("type of code 256 + 97", new BigRunner().type((char) (256 + 'a')), false);
        check.due("type of code 32768 + 97", new BigRunner().type((char) (32768 + 'a')), false);
        BigRunner runner = new BigRunner();
        for (int code = 33; code <= 104; code++) {
            check.due("type of code " + code + " into a line", runner.type((char) code), true);
        }
        BigRunner other = new BigRunner();
        for (int code = 105; code <= 126; code++) {
            check.due("type of code " + code + " into a line", other.type((char) code), true);
        }
    }

    private static void atMost72(Check check) {
        check.sentence("THE LINE is a text of at most 72 characters; false (refused) if 72 are there");
        BigRunner runner = new BigRunner();
        for (int i = 1; i <= 72; i++) {
            check.due("character " + i, runner.type(FULL.charAt(i - 1)), true);
        }
        check.due("character 73", runner.type('1'), false);
        check.due("character 73 again", runner.type('+'), false);
        check.due("character 73 of a wrong code", runner.type(' '), false);
        runner.load();
        runner.run(1);
        check.due("the sum of all 72", Check.output(runner, 0), "36");
        BigRunner shorter = Check.loaded(FULL.substring(0, 70));
        shorter.run(1);
        check.due("the sum of the first 70", Check.output(shorter, 0), "35");
        check.due("load of the first 71", Check.loads(FULL.substring(0, 71)), false);
    }

    private static void refusedTakesNoRoom(Check check) {
        check.sentence("What is refused changes nothing (type)");
        BigRunner runner = new BigRunner();
        for (int i = 0; i < 72; i++) {
            check.due("code 32 before character " + (i + 1), runner.type((char) 32), false);
            check.due("code 127 before character " + (i + 1), runner.type((char) 127), false);
            check.due("character " + (i + 1), runner.type(FULL.charAt(i)), true);
        }
        check.due("character 73", runner.type('1'), false);
        runner.load();
        runner.run(1);
        check.due("the sum", Check.output(runner, 0), "36");
    }

    private static void emptyLineOfANewObject(Check check) {
        check.sentence("BigRunner(): An empty line");
        check.dueThrow("load", IllegalArgumentException.class, () -> new BigRunner().load());
        BigRunner runner = new BigRunner();
        Check.typeAll(runner, FULL);
        check.due("load of 72 characters", runner.load(), 1);
    }

    private static void noProgramInANewObject(Check check) {
        check.sentence("BigRunner(): no program");
        BigRunner runner = new BigRunner();
        for (int what = 0; what <= 5; what++) {
            check.due("look(" + what + ")", runner.look(what), 0);
        }
        check.dueThrow("run(1)", IllegalStateException.class, () -> runner.run(1));
        check.due("a line alone is no program", runner.type('!') && runner.type('1'), true);
        check.due("look(0)", runner.look(0), 0);
        check.dueThrow("run(1)", IllegalStateException.class, () -> runner.run(1));
    }

    private static void noInputsInANewObject(Check check) {
        check.sentence("BigRunner(): no inputs");
        BigRunner runner = new BigRunner();
        check.due("look(6)", runner.look(6), 0);
        Check.typeAll(runner, "?a");
        runner.load();
        check.due("it WAITS at once", runner.run(1), 0);
        for (int i = 1; i <= 20; i++) {
            check.due("give " + i, runner.give(i), true);
        }
        check.due("give 21", runner.give(21), false);
    }

    private static void wipeOfEveryLength(Check check) {
        check.sentence("wipe: Makes the line empty");
        for (int length = 0; length <= 72; length++) {
            BigRunner runner = new BigRunner();
            Check.typeAll(runner, FULL.substring(0, length));
            runner.wipe();
            check.dueThrow("load after wipe of " + length, IllegalArgumentException.class, runner::load);
            Check.typeAll(runner, FULL);
            check.due("character 73 after wipe of " + length, runner.type('1'), false);
            check.due("load after wipe of " + length, runner.load(), 1);
        }
        BigRunner refused = new BigRunner();
        Check.typeAll(refused, FULL);
        refused.type('1');
        refused.wipe();
        refused.wipe();
        Check.typeAll(refused, "!7");
        refused.load();
        refused.run(1);
        check.due("what was typed after two wipes", Check.output(refused, 0), "7");
    }

    private static void wipeOfTheLineAlone(Check check) {
        check.sentence("wipe: Makes the line empty (and nothing else)");
        BigRunner[] runners = {
            new BigRunner(), Check.loaded("?a;!a"), Check.ran("?a;!a"), Check.ran("?a;!a*9;?b", 4), Check.ran("a=7;!a"),
            Check.ran("a=7;!a;!1/0"),
        };
        for (int i = 0; i < runners.length; i++) {
            runners[i].give(3);
            Check.typeAll(runners[i], "c=1");
            String before = Check.everything(runners[i]);
            runners[i].wipe();
            check.due("all else of object " + i, Check.everything(runners[i]), before);
        }
    }

    private static void lineAfterLoad(Check check) {
        check.sentence("load: the line is empty then");
        for (String text : new String[] {"!1", FULL}) {
            BigRunner runner = Check.loaded(text);
            check.dueThrow("load again", IllegalArgumentException.class, runner::load);
            Check.typeAll(runner, FULL);
            check.due("character 73", runner.type('1'), false);
            check.due("load of 72 characters", runner.load(), 1);
        }
    }

    private static void lineAfterARefusedLoad(Check check) {
        check.sentence("What throws changes nothing (load and the line)");
        BigRunner runner = new BigRunner();
        Check.typeAll(runner, FULL.substring(0, 71));
        check.dueThrow("load of 71", IllegalArgumentException.class, runner::load);
        check.dueThrow("load of 71 again", IllegalArgumentException.class, runner::load);
        check.due("character 72", runner.type('1'), true);
        check.due("character 73", runner.type('1'), false);
        check.due("load of 72", runner.load(), 1);
        Check.typeAll(runner, FULL.substring(0, 71));
        runner.type('+');
        check.dueThrow("load of 72 that are no PROGRAM", IllegalArgumentException.class, runner::load);
        check.due("character 73 after it", runner.type('1'), false);
    }

    private static void usedFor512Calls(Check check) {
        check.sentence("An object is used for at most 512 calls after it has been made");
        BigRunner runner = new BigRunner();
        String text = "[1:?a;b=b+a]";
        check.due("a refused character in call 1", runner.type(' '), false);
        int calls = 1;
        for (int i = 0; i < text.length(); i++) {
            runner.type(text.charAt(i));
            calls++;
        }
        runner.load();
        calls++;
        int sum = 0;
        for (int turn = 1; calls < 510; turn++) {
            check.due("give in call " + (calls + 1), runner.give(turn), true);
            check.due("run in call " + (calls + 2), runner.run(3), 3);
            calls += 2;
            sum += turn;
        }
        check.due("digits in call " + (calls + 1), runner.variable(1, -2), Integer.toString(sum).length());
        check.due("the lowest digit in call " + (calls + 2), runner.variable(1, 0), sum % 10);
    }
}
