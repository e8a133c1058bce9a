/** Promises 4, 5, 6 and 19: steps, turns and the row. */
public final class TurnTest {
    private static final Checks CHECKS = new Checks("turns");

    public static void main(String[] args) {
        oneProcess();
        runEdges();
        twoByTurns();
        yieldEndsTurn();
        quantumBeginsAnew();
        wokenGoBehind();
        wokenByNumbers();
        allAsleep();
        CHECKS.finish();
    }

    private static void oneProcess() {
        PagedKernel kernel = new Program().stay().booted(2, 3);
        int[] turn = {1, 1, 0, 1, 1, 0};
        for (int i = 0; i < turn.length; i++) {
            CHECKS.due("step " + i, kernel.step(), 1);
            CHECKS.due("current " + i, kernel.current(), turn[i]);
            CHECKS.due("row " + i, kernel.waitingTurn(0), 1 - turn[i]);
        }
    }

    private static void runEdges() {
        PagedKernel kernel = new Program().add(Asm.number(0, 5, 5, 1), Asm.jal(0, -4)).booted(2, 3);
        int[] wrong = {0, -1, 101, Integer.MAX_VALUE, Integer.MIN_VALUE};
        for (int n : wrong) {
            CHECKS.due("run(" + n + ")", kernel.run(n), -1);
        }
        CHECKS.due("no step was made", kernel.pc(1), 0);
        CHECKS.due("run(1)", kernel.run(1), 1);
        CHECKS.due("pc", kernel.pc(1), 4);
        CHECKS.due("run(100)", kernel.run(100), 100);
        CHECKS.due("x5", kernel.register(1, 5), 51);
        PagedKernel ending = new Program().nothing(3).add(0).booted(2, 3);
        CHECKS.due("run to the end", ending.run(100), 4);
        CHECKS.due("run after it", ending.run(100), 0);
        CHECKS.due("step after it", ending.step(), -1);
        CHECKS.due("run(0) after it", ending.run(0), -1);
    }

    private static void twoByTurns() {
        PagedKernel kernel = new Program().call(Asm.FORK).stay().booted(8, 3);
        CHECKS.due("fork", kernel.run(2), 2);
        CHECKS.due("1 keeps the turn", kernel.current(), 1);
        CHECKS.dueRow("2 is in the row", kernel, "2");
        int[] makers = {1, 2, 2, 2, 1, 1, 1, 2};
        int[] turn = {0, 2, 2, 0, 1, 1, 0, 2};
        String[] rows = {"21", "1", "1", "12", "2", "2", "21", "1"};
        for (int i = 0; i < makers.length; i++) {
            CHECKS.due("maker " + i, kernel.step(), makers[i]);
            CHECKS.due("turn " + i, kernel.current(), turn[i]);
            CHECKS.dueRow("row " + i, kernel, rows[i]);
        }
        CHECKS.due("waitingTurn(1)", kernel.waitingTurn(1), 0);
        CHECKS.due("waitingTurn(-1)", kernel.waitingTurn(-1), 0);
        CHECKS.due("waitingTurn(8)", kernel.waitingTurn(8), 0);
        CHECKS.due("waitingTurn(most)", kernel.waitingTurn(Integer.MAX_VALUE), 0);
        CHECKS.due("waitingTurn(least)", kernel.waitingTurn(Integer.MIN_VALUE), 0);
        PagedKernel atOnce = new Program().call(Asm.FORK).stay().booted(8, 2);
        atOnce.run(2);
        CHECKS.dueRow("a fork at the end of the quantum", atOnce, "21");
    }

    private static void yieldEndsTurn() {
        PagedKernel kernel = new Program().call(Asm.FORK).set(17, Asm.YIELD).add(Asm.CALL, Asm.jal(0, -4)).booted(8, 9);
        kernel.run(3);
        CHECKS.due("before the yield", kernel.current(), 1);
        CHECKS.due("x10 before", kernel.register(1, 10), 2);
        kernel.step();
        CHECKS.due("after the yield", kernel.current(), 0);
        CHECKS.dueRow("row", kernel, "21");
        CHECKS.due("x10 stays", kernel.register(1, 10), 2);
        CHECKS.due("pc grows", kernel.pc(1), 16);
        CHECKS.due("the other", kernel.step(), 2);
        CHECKS.due("the other yields", kernel.step(), 2);
        CHECKS.due("back", kernel.step(), 1);
        PagedKernel alone = new Program().add(Asm.CALL, Asm.jal(0, -4)).booted(8, 9);
        alone.step();
        CHECKS.due("alone", alone.current(), 0);
        CHECKS.dueRow("alone in the row", alone, "1");
        PagedKernel last = new Program().add(Asm.CALL, Asm.jal(0, -4)).booted(8, 1);
        last.step();
        CHECKS.dueRow("a yield in the last step puts it once", last, "1");
    }

    private static void quantumBeginsAnew() {
        PagedKernel kernel = new Program().nothing(2).add(Asm.CALL).stay().booted(8, 4);
        kernel.run(3);
        CHECKS.due("yielded in its third step", kernel.current(), 0);
        kernel.run(3);
        CHECKS.due("a whole quantum again", kernel.current(), 1);
        kernel.step();
        CHECKS.due("and it ends", kernel.current(), 0);
    }

    /** 1 waits for 2; when 2 ends, 1 becomes ready behind 3. */
    private static void wokenGoBehind() {
        Program program = new Program().call(Asm.FORK);
        int toChild = program.here();
        program.add(0).call(Asm.FORK);
        int toIdle = program.here();
        program.add(0).call(Asm.WAIT).stay();
        program.mend(toChild, Asm.branch(0, 10, 0, program.here() - toChild));
        program.nothing(1).call(Asm.EXIT, 5);
        program.mend(toIdle, Asm.branch(0, 10, 0, program.here() - toIdle));
        program.stay();
        PagedKernel kernel = program.booted(40, 9);
        kernel.run(8);
        CHECKS.due("1 waits", kernel.stateOf(1), 4);
        CHECKS.dueRow("2 and 3 are ready", kernel, "23");
        CHECKS.due("nobody has the turn", kernel.current(), 0);
        kernel.run(4);
        CHECKS.due("2 runs", kernel.current(), 2);
        CHECKS.dueRow("3 waits for its turn", kernel, "3");
        CHECKS.due("2 ends", kernel.step(), 2);
        CHECKS.due("no turn", kernel.current(), 0);
        CHECKS.due("2 has ended", kernel.stateOf(2), 5);
        CHECKS.due("1 is ready", kernel.stateOf(1), 1);
        CHECKS.dueRow("1 behind 3", kernel, "31");
        CHECKS.due("its PC stayed", kernel.word(1, kernel.pc(1)), Asm.CALL);
    }

    /** 2 and 3 read an empty pipe; 1 writes one byte: both become ready, 3 finds nothing again. */
    private static void wokenByNumbers() {
        Program program = new Program().call(Asm.PIPE).call(Asm.FORK);
        int toReader = program.here();
        program.add(0).call(Asm.FORK);
        int toReader2 = program.here();
        program.add(0).call(Asm.YIELD).call(Asm.WRITE, 2, 65).stay();
        program.mend(toReader, Asm.branch(0, 10, 0, program.here() - toReader));
        program.mend(toReader2, Asm.branch(0, 10, 0, program.here() - toReader2));
        program.call(Asm.READ, 0).keep(20).stay();
        PagedKernel kernel = program.booted(40, 9);
        kernel.run(9);
        CHECKS.dueRow("1's quantum has ended", kernel, "231");
        kernel.run(8);
        CHECKS.due("2 reads", kernel.stateOf(2), 2);
        CHECKS.due("3 reads", kernel.stateOf(3), 2);
        for (int i = 0; i < 20 && kernel.held(0) == 0; i++) {
            kernel.step();
        }
        CHECKS.due("a byte is there", kernel.held(0), 1);
        CHECKS.due("2 is ready", kernel.stateOf(2), 1);
        CHECKS.due("3 is ready", kernel.stateOf(3), 1);
        CHECKS.due("1 keeps the turn", kernel.current(), 1);
        CHECKS.dueRow("by their numbers", kernel, "23");
        kernel.run(30);
        CHECKS.due("2 has it", kernel.register(2, 20), 65);
        CHECKS.due("3 reads again", kernel.stateOf(3), 2);
        CHECKS.due("3's PC stays", kernel.word(3, kernel.pc(3)), Asm.CALL);
    }

    private static void allAsleep() {
        PagedKernel kernel = new Program().call(Asm.PIPE).call(Asm.READ, 0).booted(4, 4);
        CHECKS.due("four steps and one", kernel.run(100), 5);
        CHECKS.due("asleep", kernel.step(), 0);
        CHECKS.due("asleep for good", kernel.run(7), 0);
        CHECKS.due("no turn", kernel.current(), 0);
        CHECKS.due("reading", kernel.stateOf(1), 2);
        Program program = new Program().call(Asm.PIPE).call(Asm.FORK);
        int toChild = program.here();
        program.add(0, 0);
        program.mend(toChild, Asm.branch(0, 10, 0, 8));
        program.call(Asm.READ, 0);
        PagedKernel orphan = program.booted(8, 9);
        orphan.run(100);
        CHECKS.due("1 has ended", orphan.stateOf(1), 5);
        CHECKS.due("2 has not", orphan.stateOf(2), 2);
        CHECKS.due("so it is 0", orphan.step(), 0);
    }
}
