/** Promises 2 and 3: the program, and how process 1 begins. */
public final class LoadBootTest {
    private static final Checks CHECKS = new Checks("load and boot");

    public static void main(String[] args) {
        loadsSixtyFour();
        pagesForProgram();
        refusedBoot();
        begins();
        CHECKS.finish();
    }

    private static void loadsSixtyFour() {
        PagedKernel kernel = new PagedKernel(40, 4);
        for (int i = 0; i < 64; i++) {
            CHECKS.due("load " + i, kernel.load(1000 - i * 77), true);
        }
        CHECKS.due("load 64", kernel.load(5), false);
        CHECKS.due("boot", kernel.boot(), 0);
        CHECKS.due("load after boot", kernel.load(5), false);
        CHECKS.due("pages", kernel.pages(1), 5);
        for (int i = 0; i < 64; i++) {
            CHECKS.due("word " + i, kernel.word(1, 4 * i), 1000 - i * 77);
        }
        for (int i = 64; i < 80; i++) {
            CHECKS.due("word " + i, kernel.word(1, 4 * i), 0);
        }
    }

    private static void pagesForProgram() {
        int[] lengths = {1, 15, 16, 17, 32, 33, 48, 49, 64};
        int[] pages = {2, 2, 2, 3, 3, 4, 4, 5, 5};
        for (int i = 0; i < lengths.length; i++) {
            PagedKernel kernel = new Program().nothing(lengths[i]).booted(pages[i], 4);
            CHECKS.due("pages for " + lengths[i], kernel.pages(1), pages[i]);
            CHECKS.due("x2 for " + lengths[i], kernel.register(1, 2), 64 * pages[i]);
            CHECKS.due("frames left for " + lengths[i], kernel.freeFrames(), 0);
            CHECKS.due("load when booted", kernel.load(1), false);
            PagedKernel narrow = new Program().nothing(lengths[i]).loaded(pages[i] - 1, 4);
            CHECKS.due("too few frames for " + lengths[i], narrow.boot(), 2);
        }
    }

    private static void refusedBoot() {
        PagedKernel kernel = new Program().nothing(16).loaded(2, 4);
        CHECKS.due("a word too many", kernel.load(15), true);
        CHECKS.due("refused", kernel.boot(), 2);
        CHECKS.due("refused again", kernel.boot(), 2);
        CHECKS.due("frames stay free", kernel.freeFrames(), 2);
        CHECKS.due("no process", kernel.stateOf(1), 0);
        CHECKS.due("no step", kernel.step(), -1);
        CHECKS.due("the row is empty", kernel.waitingTurn(0), 0);
        CHECKS.due("load goes on", kernel.load(15), true);
        PagedKernel late = new PagedKernel(2, 4);
        CHECKS.due("no program", late.boot(), 2);
        late.load(15);
        CHECKS.due("with a program", late.boot(), 0);
        CHECKS.due("once more", late.boot(), 1);
    }

    private static void begins() {
        PagedKernel kernel = new Program().add(Asm.NOTHING, 77).booted(12, 4);
        CHECKS.due("state", kernel.stateOf(1), 1);
        CHECKS.due("parent", kernel.parentOf(1), 0);
        CHECKS.due("pc", kernel.pc(1), 0);
        CHECKS.due("exit", kernel.exitOf(1), PagedKernel.NONE);
        for (int k = 0; k < 32; k++) {
            CHECKS.due("register " + k, kernel.register(1, k), k == 2 ? 128 : 0);
        }
        for (int d = 0; d < 6; d++) {
            CHECKS.due("descriptor " + d, kernel.descriptor(1, d), d == 1 ? 0 : -1);
        }
        CHECKS.due("nobody has the turn", kernel.current(), 0);
        CHECKS.dueRow("row", kernel, "1");
        CHECKS.due("frames", kernel.freeFrames(), 10);
        for (int p = 2; p <= 8; p++) {
            CHECKS.due("no process " + p, kernel.stateOf(p), 0);
        }
        PagedKernel ended = new Program().add(0).booted(12, 4);
        ended.run(5);
        CHECKS.due("booted once, though all have ended", ended.boot(), 1);
        CHECKS.due("load then", ended.load(1), false);
    }
}
