/** Promises 6 to 19: what the looking calls answer for every argument, and that they change nothing. */
public final class ViewTest {
    private static final Checks CHECKS = new Checks("views");
    private static final int[] NO_PROCESS = {0, -1, 2, 8, 9, 100, Integer.MAX_VALUE, Integer.MIN_VALUE};

    public static void main(String[] args) {
        noProcess();
        noRegister();
        noAddress();
        noDescriptor();
        noPipe();
        highestProcess();
        lookingChangesNothing();
        CHECKS.finish();
    }

    private static PagedKernel some() {
        return new Program().call(Asm.PIPE).call(Asm.WRITE, 2, 7).call(Asm.WRITE, 1, 8).set(31, 99).stay().ran(9, 11);
    }

    private static void noProcess() {
        PagedKernel kernel = some();
        for (int p : NO_PROCESS) {
            CHECKS.due("stateOf " + p, kernel.stateOf(p), 0);
            CHECKS.due("exitOf " + p, kernel.exitOf(p), PagedKernel.NONE);
            CHECKS.due("parentOf " + p, kernel.parentOf(p), PagedKernel.NONE);
            CHECKS.due("pages " + p, kernel.pages(p), 0);
            CHECKS.due("register " + p, kernel.register(p, 31), 0);
            CHECKS.due("pc " + p, kernel.pc(p), 0);
            CHECKS.due("word " + p, kernel.word(p, 0), 0);
            CHECKS.due("descriptor " + p, kernel.descriptor(p, 1), PagedKernel.NONE);
        }
        CHECKS.due("stateOf 1", kernel.stateOf(1), 1);
        CHECKS.due("exitOf 1", kernel.exitOf(1), PagedKernel.NONE);
        CHECKS.due("parentOf 1", kernel.parentOf(1), 0);
        CHECKS.due("pages 1", kernel.pages(1), 2);
        CHECKS.due("pc 1", kernel.pc(1), 44);
    }

    private static void noRegister() {
        PagedKernel kernel = some();
        int[] none = {-1, 32, 33, 63, 1000, Integer.MAX_VALUE, Integer.MIN_VALUE};
        for (int k : none) {
            CHECKS.due("register " + k, kernel.register(1, k), 0);
        }
        CHECKS.due("register 31", kernel.register(1, 31), 99);
        CHECKS.due("register 0", kernel.register(1, 0), 0);
    }

    private static void noAddress() {
        PagedKernel kernel = new Program().set(5, -1).add(Asm.put(2, 5, 0, 124)).ran(9, 2);
        int[] none = {-4, 128, 132, 512, 1, 2, 3, 5, 125, 126, 127, Integer.MAX_VALUE, Integer.MIN_VALUE};
        for (int address : none) {
            CHECKS.due("word " + address, kernel.word(1, address), 0);
        }
        CHECKS.due("word 124", kernel.word(1, 124), -1);
        CHECKS.due("word 0", kernel.word(1, 0), Asm.number(0, 5, 0, -1));
    }

    private static void noDescriptor() {
        PagedKernel kernel = some();
        int[] none = {-1, 6, 7, 31, Integer.MAX_VALUE, Integer.MIN_VALUE};
        for (int d : none) {
            CHECKS.due("descriptor " + d, kernel.descriptor(1, d), PagedKernel.NONE);
        }
        CHECKS.due("descriptor 0", kernel.descriptor(1, 0), 1);
        CHECKS.due("descriptor 1", kernel.descriptor(1, 1), 0);
        CHECKS.due("descriptor 2", kernel.descriptor(1, 2), 2);
    }

    private static void noPipe() {
        PagedKernel kernel = some();
        int[] none = {-1, 1, 2, 3, 4, 5, Integer.MAX_VALUE, Integer.MIN_VALUE};
        for (int p : none) {
            CHECKS.due("held " + p, kernel.held(p), 0);
        }
        CHECKS.due("held 0", kernel.held(0), 1);
    }

    /** Process 8 and pipe 3, the last ones, are there when they are. */
    private static void highestProcess() {
        Program program = new Program();
        program.call(Asm.FORK).call(Asm.FORK).call(Asm.FORK).stay();
        PagedKernel kernel = program.ran(9, 100);
        CHECKS.due("state of 8", kernel.stateOf(8), 1);
        CHECKS.due("pages of 8", kernel.pages(8), 2);
        CHECKS.due("word of 8", kernel.word(8, 4), Asm.CALL);
        CHECKS.due("x2 of 8", kernel.register(8, 2), 128);
        CHECKS.due("descriptor of 8", kernel.descriptor(8, 1), 0);
        int ready = 0;
        for (int i = 0; i < 8; i++) {
            ready += kernel.waitingTurn(i) > 0 ? 1 : 0;
        }
        CHECKS.due("eight are ready, one of them may have the turn", ready + (kernel.current() > 0 ? 1 : 0), 8);
        Program pipes = new Program();
        for (int i = 0; i < 3; i++) {
            pipes.call(Asm.PIPE).call(Asm.CLOSE, i + 2);
            pipes.mend(pipes.here() - 12, Asm.number(0, 10, 11, 0));
        }
        pipes.call(Asm.CLOSE, 1).call(Asm.PIPE).call(Asm.WRITE, 4, 9).stay();
        PagedKernel last = pipes.ran(9, pipes.size());
        CHECKS.due("reading end of pipe 3", last.descriptor(1, 1), 7);
        CHECKS.due("writing end of pipe 3", last.descriptor(1, 4), 8);
        CHECKS.due("held by pipe 3", last.held(3), 1);
        CHECKS.due("held by pipe 4", last.held(4), 0);
        CHECKS.due("nothing at 5", last.descriptor(1, 5), PagedKernel.NONE);
    }

    private static void lookingChangesNothing() {
        Program program = new Program().call(Asm.PIPE).call(Asm.FORK).call(Asm.WRITE, 2, 7).call(Asm.READ, 0)
            .call(Asm.WRITE, 1).stay();
        PagedKernel plain = program.booted(40, 3);
        PagedKernel looked = program.booted(40, 3);
        for (int i = 0; i < 60; i++) {
            lookEverywhere(looked);
            CHECKS.due("step " + i, looked.step(), plain.step());
            CHECKS.due("turn " + i, looked.current(), plain.current());
            CHECKS.due("console " + i, looked.consoleLength(), plain.consoleLength());
            CHECKS.due("pc " + i, looked.pc(2), plain.pc(2));
        }
    }

    private static void lookEverywhere(PagedKernel kernel) {
        for (int p = -1; p < 10; p++) {
            kernel.stateOf(p);
            kernel.exitOf(p);
            kernel.parentOf(p);
            kernel.pages(p);
            kernel.pc(p);
            kernel.held(p);
            kernel.console(p);
            kernel.waitingTurn(p);
            for (int k = -1; k < 33; k++) {
                kernel.register(p, k);
                kernel.word(p, k);
                kernel.descriptor(p, k);
            }
        }
        kernel.freeFrames();
        kernel.current();
        kernel.consoleLength();
    }
}
