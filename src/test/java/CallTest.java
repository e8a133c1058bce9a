/** The calls 0 to 5 and those that are none: yield, exit, number, fork, wait, grow. */
public final class CallTest {
    private static final Checks CHECKS = new Checks("calls");

    public static void main(String[] args) {
        exit();
        ownNumber();
        forkCopies();
        forkRefused();
        forkNumbers();
        waitForChild();
        waitLeast();
        waitWithoutChild();
        grow();
        growRefused();
        freshFrames();
        others();
        CHECKS.finish();
    }

    private static void exit() {
        int[] exits = {0, 1, -1, 200, Integer.MIN_VALUE, Integer.MAX_VALUE};
        for (int a : exits) {
            Program program = new Program().call(Asm.EXIT, a);
            PagedKernel kernel = program.booted(4, 9);
            CHECKS.due("steps", kernel.run(100), program.size());
            CHECKS.due("state", kernel.stateOf(1), 5);
            CHECKS.due("exit", kernel.exitOf(1), a);
            CHECKS.due("x10 stays", kernel.register(1, 10), a);
            CHECKS.due("pc grows", kernel.pc(1), program.here());
            CHECKS.due("pages", kernel.pages(1), 0);
            CHECKS.due("frames", kernel.freeFrames(), 4);
            CHECKS.due("descriptor 1", kernel.descriptor(1, 1), PagedKernel.NONE);
            CHECKS.due("parent", kernel.parentOf(1), 0);
            CHECKS.due("turn", kernel.current(), 0);
            CHECKS.due("row", kernel.waitingTurn(0), 0);
        }
    }

    private static void ownNumber() {
        PagedKernel kernel = new Program().call(Asm.FORK).call(Asm.OWN_NUMBER, 9).stay().ran(9, 40);
        CHECKS.due("1", kernel.register(1, 10), 1);
        CHECKS.due("2", kernel.register(2, 10), 2);
    }

    private static void forkCopies() {
        Program program = new Program().set(5, -77).set(31, 4444).set(11, 12).add(Asm.put(2, 5, 0, 120));
        program.call(Asm.CLOSE, 1).call(Asm.PIPE).set(10, 99).call(Asm.FORK);
        int forked = program.size();
        program.nothing(1).add(Asm.put(2, 10, 0, 124)).stay();
        PagedKernel kernel = program.booted(12, 1);
        int pages = kernel.pages(1);
        kernel.run(forked);
        CHECKS.due("the answer", kernel.register(1, 10), 2);
        CHECKS.due("the copy's answer", kernel.register(2, 10), 0);
        for (int k = 0; k < 32; k++) {
            if (k != 10) {
                CHECKS.due("x" + k, kernel.register(2, k), kernel.register(1, k));
            }
        }
        CHECKS.due("x5", kernel.register(2, 5), -77);
        CHECKS.due("x31", kernel.register(2, 31), 4444);
        CHECKS.due("pc", kernel.pc(2), 4 * forked);
        CHECKS.due("pc here", kernel.pc(1), 4 * forked);
        CHECKS.due("parent", kernel.parentOf(2), 1);
        CHECKS.due("state", kernel.stateOf(2), 1);
        CHECKS.due("pages", kernel.pages(2), pages);
        CHECKS.due("frames", kernel.freeFrames(), 12 - 2 * pages);
        for (int d = 0; d < 6; d++) {
            CHECKS.due("descriptor " + d, kernel.descriptor(2, d), kernel.descriptor(1, d));
        }
        CHECKS.due("reading end", kernel.descriptor(2, 0), 1);
        CHECKS.due("writing end", kernel.descriptor(2, 1), 2);
        for (int address = 0; address < 64 * pages; address += 4) {
            CHECKS.due("word " + address, kernel.word(2, address), kernel.word(1, address));
        }
        CHECKS.due("word 120", kernel.word(2, 120), -77);
        kernel.run(10);
        CHECKS.due("each has pages of its own", kernel.word(1, 124), 2);
        CHECKS.due("and so has the copy", kernel.word(2, 124), 0);
    }

    private static void forkRefused() {
        PagedKernel narrow = new Program().set(11, 5).call(Asm.FORK).stay().booted(3, 9);
        narrow.run(3);
        CHECKS.due("too few frames", narrow.register(1, 10), -1);
        CHECKS.due("x11 stays", narrow.register(1, 11), 5);
        CHECKS.due("frames stay", narrow.freeFrames(), 1);
        CHECKS.due("no process", narrow.stateOf(2), 0);
        CHECKS.due("pc grows", narrow.pc(1), 12);
        PagedKernel just = new Program().call(Asm.FORK).stay().booted(4, 9);
        just.run(2);
        CHECKS.due("just enough frames", just.register(1, 10), 2);
        CHECKS.due("none is left", just.freeFrames(), 0);
    }

    private static void forkNumbers() {
        Program program = new Program().set(17, Asm.FORK).set(18, 0);
        int again = program.here();
        program.add(Asm.CALL);
        program.add(Asm.branch(0, 10, 0, 12)).add(Asm.number(0, 18, 18, 1), Asm.jal(0, again - program.here() - 4)).stay();
        PagedKernel kernel = program.booted(40, 9);
        kernel.run(9);
        for (int i = 0; i < 400 && kernel.register(1, 10) != -1; i++) {
            kernel.step();
        }
        CHECKS.due("no number is free", kernel.register(1, 10), -1);
        CHECKS.due("seven forks and the refused one", kernel.register(1, 18), 7);
        for (int p = 2; p <= 8; p++) {
            CHECKS.due("process " + p, kernel.stateOf(p), 1);
            CHECKS.due("parent of " + p, kernel.parentOf(p), 1);
        }
        CHECKS.due("frames", kernel.freeFrames(), 40 - 16);
    }

    private static void waitForChild() {
        Program program = new Program().set(11, 3).call(Asm.FORK);
        int toChild = program.here();
        program.add(0).call(Asm.WAIT).keep(20).call(Asm.WAIT).stay();
        program.mend(toChild, Asm.branch(0, 10, 0, program.here() - toChild));
        program.nothing(9).call(Asm.EXIT, -12345);
        PagedKernel kernel = program.booted(40, 9);
        kernel.run(6);
        CHECKS.due("waiting", kernel.stateOf(1), 4);
        CHECKS.due("no turn", kernel.current(), 0);
        CHECKS.due("pc stays", kernel.word(1, kernel.pc(1)), Asm.CALL);
        CHECKS.due("x10 stays", kernel.register(1, 10), 2);
        CHECKS.due("x11 stays", kernel.register(1, 11), 3);
        for (int i = 0; i < 500 && kernel.stateOf(2) != 5; i++) {
            if (kernel.step() != 2) {
                CHECKS.due("only 2 runs", 0, 1);
                break;
            }
        }
        CHECKS.due("exit of 2", kernel.exitOf(2), -12345);
        CHECKS.due("parent of 2", kernel.parentOf(2), 1);
        CHECKS.due("pages of 2", kernel.pages(2), 0);
        CHECKS.due("pc of 2", kernel.pc(2), program.here());
        CHECKS.due("1 is ready", kernel.stateOf(1), 1);
        kernel.step();
        CHECKS.due("the answer", kernel.register(1, 10), 2);
        CHECKS.due("x11", kernel.register(1, 11), -12345);
        CHECKS.due("2 is there no longer", kernel.stateOf(2), 0);
        CHECKS.due("its exit", kernel.exitOf(2), PagedKernel.NONE);
        CHECKS.due("its parent", kernel.parentOf(2), PagedKernel.NONE);
        CHECKS.due("its pc", kernel.pc(2), 0);
        CHECKS.due("its x2", kernel.register(2, 2), 0);
        kernel.run(3);
        CHECKS.due("no children any more", kernel.register(1, 10), -1);
        CHECKS.due("x11 stays then", kernel.register(1, 11), -12345);
        CHECKS.due("it does not wait", kernel.stateOf(1), 1);
    }

    /** 2 and 3 have ended, 3 first: 2 is taken first; then a fork gets the number 2 again. */
    private static void waitLeast() {
        Program program = new Program().call(Asm.FORK);
        int toSlow = program.here();
        program.add(0).call(Asm.FORK);
        int toFast = program.here();
        program.add(0).nothing(30);
        program.call(Asm.WAIT).keep(20).add(Asm.number(0, 21, 11, 0));
        program.call(Asm.FORK).keep(22).stay();
        program.mend(toSlow, Asm.branch(0, 10, 0, program.here() - toSlow));
        program.nothing(5);
        program.mend(toFast, Asm.branch(0, 10, 0, program.here() - toFast));
        program.add(Asm.number(0, 10, 10, 7)).call(Asm.EXIT);
        PagedKernel kernel = program.booted(40, 1);
        for (int i = 0; i < 500 && kernel.stateOf(3) != 5 && kernel.step() > 0; i++) {
            CHECKS.due("2 ends later", kernel.stateOf(2) == 5, false);
        }
        for (int i = 0; i < 200 && kernel.register(1, 22) == 0; i++) {
            kernel.step();
        }
        CHECKS.due("the least number", kernel.register(1, 20), 2);
        CHECKS.due("its exit", kernel.register(1, 21), 7);
        CHECKS.due("3 stays", kernel.stateOf(3), 5);
        CHECKS.due("the least free number", kernel.register(1, 22), 2);
        CHECKS.due("a new 2", kernel.stateOf(2), 1);
        CHECKS.due("the new one's exit", kernel.exitOf(2), PagedKernel.NONE);
    }

    private static void waitWithoutChild() {
        PagedKernel kernel = new Program().set(11, 8).call(Asm.WAIT, 5).stay().booted(4, 9);
        kernel.run(4);
        CHECKS.due("-1", kernel.register(1, 10), -1);
        CHECKS.due("x11 stays", kernel.register(1, 11), 8);
        CHECKS.due("ready", kernel.stateOf(1), 1);
        CHECKS.due("pc grows", kernel.pc(1), 16);
    }

    private static void grow() {
        for (int a = 1; a <= 6; a++) {
            PagedKernel kernel = new Program().call(Asm.GROW, a).stay().booted(12, 9);
            kernel.run(3);
            CHECKS.due("grow " + a, kernel.register(1, 10), 2 + a);
            CHECKS.due("pages", kernel.pages(1), 2 + a);
            CHECKS.due("frames", kernel.freeFrames(), 10 - a);
            CHECKS.due("x2 stays", kernel.register(1, 2), 128);
        }
        PagedKernel used = new Program().call(Asm.GROW, 1).set(5, 66).add(Asm.put(2, 5, 0, 188)).stay().booted(3, 9);
        used.run(5);
        CHECKS.due("the new page is there", used.word(1, 188), 66);
        CHECKS.due("no frame is left", used.freeFrames(), 0);
    }

    private static void growRefused() {
        int[] wrong = {0, -1, 7, 8, 9, 100, Integer.MAX_VALUE, Integer.MIN_VALUE};
        for (int a : wrong) {
            Program program = new Program().call(Asm.GROW, a);
            int steps = program.size();
            PagedKernel kernel = program.stay().booted(40, 9);
            kernel.run(steps);
            CHECKS.due("grow " + a, kernel.register(1, 10), -1);
            CHECKS.due("pages stay", kernel.pages(1), 2);
            CHECKS.due("frames stay", kernel.freeFrames(), 38);
        }
        PagedKernel narrow = new Program().call(Asm.GROW, 2).keep(20).call(Asm.GROW, 1).keep(21).call(Asm.GROW, 1).stay()
            .booted(3, 9);
        narrow.run(11);
        CHECKS.due("too few frames", narrow.register(1, 20), -1);
        CHECKS.due("just enough", narrow.register(1, 21), 3);
        CHECKS.due("none left", narrow.register(1, 10), -1);
    }

    /** A frame that 2 wrote to and gave back is 0 again when 1 gets it. */
    private static void freshFrames() {
        Program program = new Program().call(Asm.FORK);
        int toChild = program.here();
        program.add(0).call(Asm.WAIT).call(Asm.GROW, 2).stay();
        program.mend(toChild, Asm.branch(0, 10, 0, program.here() - toChild));
        program.set(5, -1).add(Asm.put(2, 5, 0, 64), Asm.put(2, 5, 0, 124)).call(Asm.EXIT, 0);
        PagedKernel kernel = program.booted(4, 9);
        kernel.run(100);
        CHECKS.due("pages", kernel.pages(1), 4);
        for (int address = 128; address < 256; address += 4) {
            CHECKS.due("word " + address, kernel.word(1, address), 0);
        }
    }

    private static void others() {
        int[] kinds = {12, 13, 100, -1, -12, Integer.MAX_VALUE, Integer.MIN_VALUE};
        for (int kind : kinds) {
            Program program = new Program().set(10, 1).set(11, 65).call(kind);
            PagedKernel kernel = program.booted(4, 9);
            kernel.run(program.size());
            CHECKS.due("call " + kind, kernel.register(1, 10), -1);
            CHECKS.due("x11 stays", kernel.register(1, 11), 65);
            CHECKS.due("pc grows", kernel.pc(1), program.here());
            CHECKS.due("ready", kernel.stateOf(1), 1);
            CHECKS.due("console", kernel.consoleLength(), 0);
        }
    }
}
