/** The terms ROW and STEP: each sentence that names an edge, by itself. */
public final class StepEdgeTest {
    private static final Checks CHECKS = new Checks("edges of the row and the step");

    public static void main(String[] args) {
        rowHoldsTheReady();
        newReadyGoToTheEnd();
        quantumOfSteps();
        firstOfTheRow();
        emptyRow();
        oneInstruction();
        notReadyThen();
        notReadyInTheLastStep();
        yielded();
        lastStepOfQuantum();
        shorterTurnsBeginAnew();
        wokenByTheirNumbers();
        wokenBehindTheOneThatStepped();
        needNotAnyMore();
        sleepOn();
        sameCallAgain();
        CHECKS.finish();
    }

    private static void rowHoldsTheReady() {
        CHECKS.sentence("The ROW holds the ready processes but the one, if any, that HAS THE TURN");
        Program reader = new Program().call(Asm.PIPE).call(Asm.READ, 0);
        PagedKernel kernel = new Program().fork(reader).fork(new Program().add(0)).fork(new Program().stay()).stay()
            .booted(40, 9);
        CHECKS.dueRow("booted", kernel, "1");
        kernel.run(1);
        CHECKS.dueRow("1 has the turn", kernel, "");
        kernel.run(7);
        CHECKS.dueRow("three forks", kernel, "234");
        CHECKS.due("1 has the turn yet", kernel.current(), 1);
        kernel.step();
        CHECKS.dueRow("its quantum ends", kernel, "2341");
        kernel.run(6);
        CHECKS.due("2 reads", kernel.stateOf(2), 2);
        CHECKS.dueRow("and is not in the row", kernel, "341");
        kernel.run(2);
        CHECKS.due("3 has ended", kernel.stateOf(3), 5);
        CHECKS.dueRow("and is not in the row either", kernel, "41");
        kernel.step();
        CHECKS.due("4 has the turn", kernel.current(), 4);
        CHECKS.dueRow("1 is in the row alone", kernel, "1");
    }

    private static void newReadyGoToTheEnd() {
        CHECKS.sentence("who becomes ready goes to its end");
        PagedKernel kernel = new Program().fork(new Program().stay()).fork(new Program().stay()).stay().booted(40, 9);
        kernel.run(2);
        CHECKS.dueRow("a copy", kernel, "2");
        kernel.run(3);
        CHECKS.dueRow("another behind it", kernel, "23");
        PagedKernel last = new Program().fork(new Program().stay()).stay().booted(40, 2);
        last.run(2);
        CHECKS.dueRow("a copy made in the last step of a quantum is before its parent", last, "21");
    }

    private static void quantumOfSteps() {
        CHECKS.sentence("The turn is for a QUANTUM of steps");
        for (int quantum = 1; quantum <= 9; quantum++) {
            PagedKernel kernel = new Program().call(Asm.FORK).stay().booted(40, quantum);
            CHECKS.until("two processes", kernel, () -> kernel.stateOf(2) == 1 && kernel.current() == 0);
            for (int turn = 0; turn < 4; turn++) {
                int first = kernel.waitingTurn(0);
                for (int i = 0; i < quantum; i++) {
                    CHECKS.due("step " + i + " of " + quantum, kernel.step(), first);
                }
                CHECKS.due("the turn is over after " + quantum, kernel.current(), 0);
            }
        }
    }

    private static void firstOfTheRow() {
        CHECKS.sentence("A STEP: if nobody has the turn, the first of the row gets it");
        PagedKernel kernel = new Program().fork(new Program().stay()).fork(new Program().stay()).call(Asm.YIELD).stay()
            .booted(40, 9);
        kernel.run(8);
        CHECKS.dueRow("after the yield", kernel, "231");
        CHECKS.due("nobody", kernel.current(), 0);
        CHECKS.due("the first", kernel.step(), 2);
        CHECKS.due("has the turn", kernel.current(), 2);
        CHECKS.dueRow("and is out of the row", kernel, "31");
        kernel.step();
        CHECKS.dueRow("who has the turn keeps it", kernel, "31");
    }

    private static void emptyRow() {
        CHECKS.sentence("(if the row is empty, there is no step)");
        PagedKernel asleep = new Program().call(Asm.PIPE).call(Asm.READ, 0).stay().ran(9, 5);
        PagedKernel ended = new Program().add(0).ran(9, 1);
        for (PagedKernel kernel : new PagedKernel[] {asleep, ended, new PagedKernel(4, 4)}) {
            CHECKS.dueRow("empty", kernel, "");
            String before = Look.all(kernel);
            CHECKS.due("no step", kernel.step() <= 0, true);
            CHECKS.due("none of many", kernel.run(100), 0);
            CHECKS.dueText("nothing changes", Look.all(kernel), before);
        }
    }

    private static void oneInstruction() {
        CHECKS.sentence("It makes one instruction");
        PagedKernel kernel = new Program().add(Asm.number(0, 5, 5, 1), Asm.number(0, 6, 6, 1), Asm.jal(0, -8)).booted(4, 9);
        for (int i = 1; i < 30; i++) {
            kernel.step();
            CHECKS.due("x5 after " + i, kernel.register(1, 5), (i + 2) / 3);
            CHECKS.due("x6 after " + i, kernel.register(1, 6), (i + 1) / 3);
            CHECKS.due("pc after " + i, kernel.pc(1), i % 3 * 4);
        }
    }

    /** What ends the turn of process 1, the last word of each being the one that does it. */
    private static Program[] enders() {
        Program pipe = new Program().call(Asm.PIPE);
        Program full = new Program().call(Asm.PIPE).set(17, Asm.WRITE);
        for (int i = 0; i < 9; i++) {
            full.set(10, 2).add(Asm.CALL);
        }
        return new Program[] {new Program().call(Asm.EXIT, 0), new Program().add(0), new Program().call(Asm.KILL, 1),
            new Program().part(pipe).call(Asm.READ, 0), full, new Program().call(Asm.FORK).call(Asm.WAIT)};
    }

    private static final int[] ENDERS_STATES = {5, 5, 5, 2, 3, 4};

    private static void notReadyThen() {
        CHECKS.sentence("If it is not ready then, nobody has the turn");
        Program[] enders = enders();
        for (int i = 0; i < enders.length; i++) {
            dueTurnOver(enders[i], i, 9);
            dueTurnOver(enders[i], i, 7);
        }
    }

    private static void dueTurnOver(Program program, int i, int quantum) {
        PagedKernel kernel = program.booted(40, quantum);
        CHECKS.until("1 does " + i, kernel, () -> kernel.pc(1) == program.here() - 4 && kernel.current() != 2);
        CHECKS.due("1 is ready before", kernel.stateOf(1), 1);
        CHECKS.until("and then it is not", kernel, () -> kernel.stateOf(1) != 1);
        CHECKS.due("but so after " + i, kernel.stateOf(1), ENDERS_STATES[i]);
        CHECKS.due("nobody has the turn after " + i, kernel.current(), 0);
        CHECKS.due("1 is not in the row after " + i, kernel.waitingTurn(0) != 1 && kernel.waitingTurn(1) != 1, true);
    }

    private static void notReadyInTheLastStep() {
        CHECKS.sentence("If it is not ready then, nobody has the turn: in the last step of a quantum too");
        Program[] enders = enders();
        for (int i = 0; i < enders.length; i++) {
            dueTurnOver(enders[i], i, 1);
            int steps = enders[i].size();
            if (steps <= 9) {
                PagedKernel kernel = enders[i].booted(40, steps);
                kernel.run(steps);
                CHECKS.due("state after " + i, kernel.stateOf(1), ENDERS_STATES[i]);
                CHECKS.due("no turn after " + i, kernel.current(), 0);
                CHECKS.dueRow("row after " + i, kernel, i == 5 ? "2" : "");
            }
        }
    }

    private static void yielded() {
        CHECKS.sentence("if it is, and it yielded .., it goes to the end of the row, and nobody has the turn");
        PagedKernel kernel = new Program().fork(new Program().stay()).add(Asm.number(0, 17, 0, Asm.YIELD), Asm.CALL).stay()
            .booted(40, 9);
        kernel.run(4);
        CHECKS.due("before it", kernel.current(), 1);
        kernel.step();
        CHECKS.due("nobody", kernel.current(), 0);
        CHECKS.dueRow("behind 2", kernel, "21");
        PagedKernel alone = new Program().add(Asm.CALL).stay().booted(4, 9);
        CHECKS.due("alone", alone.step(), 1);
        CHECKS.due("nobody has it", alone.current(), 0);
        CHECKS.dueRow("but it is in the row", alone, "1");
        CHECKS.due("and gets the turn again", alone.step(), 1);
        CHECKS.due("which it has", alone.current(), 1);
        PagedKernel both = new Program().nothing(1).add(Asm.CALL).stay().booted(4, 2);
        both.run(2);
        CHECKS.dueRow("once, though it was the last step as well", both, "1");
        PagedKernel refused = new Program().set(17, 12).add(Asm.CALL).stay().booted(4, 9);
        refused.run(2);
        CHECKS.due("another call keeps the turn", refused.current(), 1);
    }

    private static void lastStepOfQuantum() {
        CHECKS.sentence("if .. this was the last step of its quantum, it goes to the end of the row, and nobody has the turn");
        PagedKernel kernel = new Program().fork(new Program().stay()).fork(new Program().stay()).stay().booted(40, 5);
        kernel.run(4);
        CHECKS.due("before the last", kernel.current(), 1);
        kernel.step();
        CHECKS.due("nobody", kernel.current(), 0);
        CHECKS.dueRow("behind both copies", kernel, "231");
        kernel.run(5);
        CHECKS.dueRow("2 likewise", kernel, "312");
        kernel.run(5);
        CHECKS.dueRow("3 likewise", kernel, "123");
        PagedKernel alone = new Program().stay().booted(4, 1);
        alone.step();
        CHECKS.dueRow("alone, with a quantum of 1", alone, "1");
        CHECKS.due("nobody then", alone.current(), 0);
    }

    private static void shorterTurnsBeginAnew() {
        CHECKS.sentence("The turn is for a QUANTUM of steps: a whole one, however the turn before ended");
        PagedKernel kernel = new Program().nothing(2).add(Asm.CALL).stay().booted(4, 4);
        kernel.run(3);
        CHECKS.due("it yielded in its third step", kernel.current(), 0);
        kernel.run(3);
        CHECKS.due("three of four", kernel.current(), 1);
        kernel.step();
        CHECKS.due("four", kernel.current(), 0);
        PagedKernel ended = new Program().fork(new Program().stay()).nothing(1).add(0).booted(40, 7);
        ended.run(5);
        CHECKS.due("1 ends in its fifth step", ended.stateOf(1), 5);
        ended.run(6);
        CHECKS.due("2 has six of seven", ended.current(), 2);
        ended.step();
        CHECKS.due("and seven", ended.current(), 0);
    }

    private static void wokenByTheirNumbers() {
        CHECKS.sentence("Then, by their numbers, each process that is READING, WRITING or WAITING and need not any "
            + "more becomes ready");
        Program second = new Program().delay(30).call(Asm.READ, 0).keep(20).stay();
        Program third = new Program().call(Asm.READ, 0).keep(20).stay();
        PagedKernel kernel = new Program().call(Asm.PIPE).fork(second).fork(third).delay(60).call(Asm.WRITE, 2).stay()
            .booted(40, 9);
        CHECKS.until("3 reads first", kernel, () -> kernel.stateOf(3) == 2);
        CHECKS.due("2 does not yet", kernel.stateOf(2), 1);
        CHECKS.until("then 2 reads", kernel, () -> kernel.stateOf(2) == 2);
        CHECKS.until("1 writes", kernel, () -> kernel.held(0) == 1);
        CHECKS.due("2 is ready", kernel.stateOf(2), 1);
        CHECKS.due("3 is ready", kernel.stateOf(3), 1);
        String row = kernel.current() == 1 ? "23" : "123";
        CHECKS.dueRow("2 before 3, though 3 slept longer", kernel, row);
    }

    private static void wokenBehindTheOneThatStepped() {
        CHECKS.sentence("Then .. each process .. becomes ready: after the one that made the step has gone to the end of the row");
        Program reader = new Program().call(Asm.READ, 0).stay();
        // 1 makes 5 steps, 2 falls asleep after 4, and the step of 1's WRITE is the last of its second quantum.
        Program program = new Program().call(Asm.PIPE).fork(reader).nothing(2).call(Asm.WRITE, 2).stay();
        PagedKernel kernel = program.booted(40, 5);
        kernel.run(5);
        CHECKS.dueRow("1's first quantum", kernel, "21");
        kernel.run(4);
        CHECKS.due("2 reads", kernel.stateOf(2), 2);
        kernel.run(4);
        CHECKS.due("not yet", kernel.held(0), 0);
        kernel.step();
        CHECKS.due("written in the last step", kernel.held(0), 1);
        CHECKS.due("no turn", kernel.current(), 0);
        CHECKS.dueRow("1, then 2", kernel, "12");
        PagedKernel waits = new Program().fork(new Program().nothing(1).call(Asm.EXIT, 3)).call(Asm.WAIT).stay().booted(40, 9);
        CHECKS.until("2 has ended", waits, () -> waits.stateOf(2) == 5);
        CHECKS.dueRow("1 is ready in the very step", waits, "1");
    }

    private static void needNotAnyMore() {
        CHECKS.sentence("each process that is READING, WRITING or WAITING and need not any more becomes ready: in "
            + "the step that changes it");
        Program reader = new Program().call(Asm.READ, 0).stay();
        PagedKernel reads = new Program().call(Asm.PIPE).fork(reader).delay(20).call(Asm.WRITE, 2).stay().booted(40, 9);
        CHECKS.until("2 reads", reads, () -> reads.stateOf(2) == 2);
        CHECKS.until("a byte is there", reads, () -> reads.held(0) == 1);
        CHECKS.due("READING no more", reads.stateOf(2), 1);

        Program writer = new Program().set(17, Asm.WRITE).set(10, 2).add(Asm.CALL, Asm.jal(0, -8));
        PagedKernel writes = new Program().call(Asm.PIPE).fork(writer).delay(60).call(Asm.READ, 0).stay().booted(40, 9);
        CHECKS.until("2 writes", writes, () -> writes.stateOf(2) == 3);
        CHECKS.until("a byte is read", writes, () -> writes.held(0) == 7);
        CHECKS.due("WRITING no more", writes.stateOf(2), 1);

        Program waiter = new Program().fork(new Program().delay(40).add(0)).call(Asm.WAIT).stay();
        PagedKernel waits = new Program().fork(waiter).stay().booted(40, 9);
        CHECKS.until("2 waits", waits, () -> waits.stateOf(2) == 4);
        CHECKS.until("3 has ended", waits, () -> waits.stateOf(3) == 5);
        CHECKS.due("WAITING no more", waits.stateOf(2), 1);
    }

    /** What happens elsewhere wakes nobody. */
    private static void sleepOn() {
        CHECKS.sentence("each process that .. need not any more becomes ready: no other");
        Program first = new Program().call(Asm.READ, 0).stay();
        Program program = new Program().call(Asm.PIPE).fork(first).call(Asm.PIPE).call(Asm.WRITE, 4).call(Asm.WRITE, 1);
        PagedKernel kernel = program.fork(new Program().add(0)).delay(30).call(Asm.CLOSE, 0).stay().booted(40, 9);
        CHECKS.until("2 reads from pipe 0", kernel, () -> kernel.stateOf(2) == 2);
        CHECKS.until("1 is through", kernel, () -> kernel.pc(1) == program.here() - 4);
        CHECKS.due("pipe 1 has a byte", kernel.held(1), 1);
        CHECKS.due("the console has one", kernel.consoleLength(), 1);
        CHECKS.due("3 has ended", kernel.stateOf(3), 5);
        CHECKS.due("2 reads yet", kernel.stateOf(2), 2);
    }

    private static void sameCallAgain() {
        CHECKS.sentence("(It makes the same call again when its turn comes.)");
        Program reader = new Program().call(Asm.READ, 0).keep(20).stay();
        PagedKernel kernel = new Program().call(Asm.PIPE).fork(reader).fork(reader).delay(30).call(Asm.WRITE, 2, 'q').stay()
            .booted(40, 9);
        CHECKS.until("both read", kernel, () -> kernel.stateOf(2) == 2 && kernel.stateOf(3) == 2);
        int pc = kernel.pc(2);
        CHECKS.until("both are ready", kernel, () -> kernel.stateOf(2) == 1 && kernel.stateOf(3) == 1);
        CHECKS.due("the PC of 2 is at the call", kernel.pc(2), pc);
        CHECKS.due("x10 of 2 is as it was", kernel.register(2, 10), 0);
        CHECKS.due("the byte is in the pipe", kernel.held(0), 1);
        CHECKS.until("2 has it", kernel, () -> kernel.register(2, 20) == 'q');
        CHECKS.until("3 comes too late and reads on", kernel, () -> kernel.stateOf(3) == 2);
        CHECKS.due("with its PC at the call", kernel.word(3, kernel.pc(3)), Asm.CALL);
        CHECKS.due("and x10 as it was", kernel.register(3, 10), 0);
        CHECKS.due("3 has nothing", kernel.register(3, 20), 0);
    }
}
