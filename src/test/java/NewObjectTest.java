/** Promise 1: what a new object is, with the edges of its two numbers. */
public final class NewObjectTest {
    private static final Checks CHECKS = new Checks("new object");

    public static void main(String[] args) {
        frames();
        quantum();
        emptyViews();
        CHECKS.finish();
    }

    private static void frames() {
        int[] given = {1, 2, 12, 39, 40, 0, -1, 41, Integer.MAX_VALUE, Integer.MIN_VALUE};
        int[] want = {1, 2, 12, 39, 40, 12, 12, 12, 12, 12};
        for (int i = 0; i < given.length; i++) {
            CHECKS.due("frames " + given[i], new PagedKernel(given[i], 1).freeFrames(), want[i]);
        }
    }

    private static void quantum() {
        int[] given = {1, 2, 4, 8, 9, 0, -1, 10, Integer.MAX_VALUE, Integer.MIN_VALUE};
        int[] want = {1, 2, 4, 8, 9, 4, 4, 4, 4, 4};
        for (int i = 0; i < given.length; i++) {
            CHECKS.due("quantum " + given[i], stepsOfTurn(given[i]), want[i]);
        }
    }

    private static int stepsOfTurn(int quantum) {
        PagedKernel kernel = new Program().stay().booted(2, quantum);
        for (int steps = 1; steps < 20; steps++) {
            kernel.step();
            if (kernel.current() == 0) {
                return steps;
            }
        }
        return -1;
    }

    private static void emptyViews() {
        PagedKernel kernel = new PagedKernel(3, 2);
        CHECKS.due("current", kernel.current(), 0);
        CHECKS.due("consoleLength", kernel.consoleLength(), 0);
        CHECKS.due("console(0)", kernel.console(0), PagedKernel.NONE);
        CHECKS.due("waitingTurn(0)", kernel.waitingTurn(0), 0);
        CHECKS.due("step", kernel.step(), -1);
        CHECKS.due("run(3)", kernel.run(3), 0);
        for (int p = 0; p <= 9; p++) {
            CHECKS.due("stateOf " + p, kernel.stateOf(p), 0);
            CHECKS.due("exitOf " + p, kernel.exitOf(p), PagedKernel.NONE);
            CHECKS.due("parentOf " + p, kernel.parentOf(p), PagedKernel.NONE);
            CHECKS.due("pages " + p, kernel.pages(p), 0);
            CHECKS.due("pc " + p, kernel.pc(p), 0);
            CHECKS.due("register " + p, kernel.register(p, 2), 0);
            CHECKS.due("word " + p, kernel.word(p, 0), 0);
            CHECKS.due("descriptor " + p, kernel.descriptor(p, 1), PagedKernel.NONE);
            CHECKS.due("held " + p, kernel.held(p), 0);
        }
        CHECKS.due("boot without a program", kernel.boot(), 2);
        CHECKS.due("load", kernel.load(1), true);
    }
}
