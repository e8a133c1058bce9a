import java.util.Random;

/** Promise 4 and 8: every fault, with nothing else changed by the instruction. */
public final class FaultTest {
    private static final Checks CHECKS = new Checks("faults");

    public static void main(String[] args) {
        crookedJumps();
        noPage();
        everyShape();
        randomWords();
        calls();
        badReading();
        badPutting();
        nothingChanges();
        CHECKS.finish();
    }

    /** Runs the word at the place 0 of a program of one page and answers the exit, or NONE. */
    private static int exitOf(int word) {
        PagedKernel kernel = new Program().add(word).booted(4, 4);
        CHECKS.due("it is a step", kernel.step(), 1);
        int exit = kernel.exitOf(1);
        CHECKS.due("state", kernel.stateOf(1), exit == PagedKernel.NONE ? 1 : 5);
        CHECKS.due("frames", kernel.freeFrames(), exit == PagedKernel.NONE ? 2 : 4);
        if (exit != PagedKernel.NONE) {
            CHECKS.due("pc stays", kernel.pc(1), 0);
            CHECKS.due("no turn", kernel.current(), 0);
        }
        return exit;
    }

    private static void crookedJumps() {
        int[] distances = {2, 6, -2, 1022, -1048574};
        for (int j : distances) {
            CHECKS.due("111 by " + j, exitOf(Asm.jal(1, j)), 128);
        }
        CHECKS.due("103 to 2", exitOf(Asm.jalr(1, 0, 2)), 128);
        CHECKS.due("103 to 3", exitOf(Asm.jalr(1, 0, 3)), 128);
        CHECKS.due("103 to 1 is 0", exitOf(Asm.jalr(1, 0, 1)), PagedKernel.NONE);
        CHECKS.due("103 to -1 is -2", exitOf(Asm.jalr(1, 0, -1)), 128);
        CHECKS.due("99 taken by 2", exitOf(Asm.branch(0, 0, 0, 2)), 128);
        CHECKS.due("99 taken by -6", exitOf(Asm.branch(5, 0, 0, -6)), 128);
        CHECKS.due("99 not taken by 2", exitOf(Asm.branch(1, 0, 0, 2)), PagedKernel.NONE);
        PagedKernel kernel = new Program().set(1, 77).add(Asm.jal(1, 2)).ran(9, 2);
        CHECKS.due("d stays", kernel.register(1, 1), 77);
        CHECKS.due("pc stays", kernel.pc(1), 4);
        kernel = new Program().set(1, 78).add(Asm.jalr(1, 1, 0)).ran(9, 2);
        CHECKS.due("d stays by register", kernel.register(1, 1), 78);
        CHECKS.due("exit", kernel.exitOf(1), 128);
    }

    private static void noPage() {
        int[] targets = {128, -4, 1024, 1048572, -1048576};
        for (int j : targets) {
            PagedKernel kernel = new Program().add(Asm.jal(0, j)).booted(4, 4);
            kernel.step();
            CHECKS.due("the jump itself is well", kernel.stateOf(1), 1);
            CHECKS.due("the fault is a step", kernel.step(), 1);
            CHECKS.due("exit", kernel.exitOf(1), 129);
            CHECKS.due("pc stays", kernel.pc(1), j);
            CHECKS.due("then all have ended", kernel.step(), -1);
        }
        Program full = new Program().add(Asm.jal(0, 124)).nothing(15);
        PagedKernel kernel = full.booted(4, 4);
        kernel.run(2);
        CHECKS.due("the last word is there, and is 0", kernel.exitOf(1), 130);
        Program past = new Program().set(5, Asm.NOTHING).add(Asm.put(2, 5, 0, 124), Asm.jal(0, 116));
        kernel = past.ran(9, 4);
        CHECKS.due("beyond the last word", kernel.pc(1), 128);
        CHECKS.due("not yet", kernel.stateOf(1), 1);
        kernel.step();
        CHECKS.due("now", kernel.exitOf(1), 129);
    }

    /** True for the words that are no fault 2, by op, f and g, 115 left out. */
    private static boolean isKnown(int op, int f, int g) {
        switch (op) {
            case 55: case 23: case 111: return true;
            case 103: case 15: return f == 0;
            case 99: return f != 2 && f != 3;
            case 3: return f <= 2 || f == 4 || f == 5;
            case 35: return f <= 2;
            case 19: return f == 1 ? g == 0 : f != 5 || g == 0 || g == 32;
            case 51: return g == 0 || g == 32 && (f == 0 || f == 5);
            default: return false;
        }
    }

    private static void everyShape() {
        for (int op = 0; op < 128; op++) {
            for (int f = 0; f < 8; f++) {
                for (int g = 0; g < 128; g++) {
                    if (op != 115) {
                        int exit = exitOf(op | f << 12 | g << 25);
                        CHECKS.due("op " + op + " f " + f + " g " + g, exit == 130, !isKnown(op, f, g));
                    }
                }
            }
        }
    }

    private static void randomWords() {
        Random random = new Random(11);
        for (int i = 0; i < 20000; i++) {
            int w = random.nextInt();
            int op = w & 127;
            boolean known = op != 115 && isKnown(op, w >>> 12 & 7, w >>> 25);
            CHECKS.due("word " + w, exitOf(w) == 130, !known);
        }
    }

    private static void calls() {
        CHECKS.due("a call", exitOf(115), PagedKernel.NONE);
        CHECKS.due("fault 3", exitOf(1048691), 131);
        for (int bit = 7; bit < 32; bit++) {
            if (bit != 20) {
                CHECKS.due("115 with bit " + bit, exitOf(115 | 1 << bit), 130);
            }
            CHECKS.due("1048691 with bit " + bit, exitOf(1048691 ^ 1 << bit), bit == 20 ? PagedKernel.NONE : 130);
        }
    }

    private static void badReading() {
        CHECKS.due("half at 1", exitOf(Asm.read(1, 7, 0, 1)), 132);
        CHECKS.due("half without sign at 3", exitOf(Asm.read(5, 7, 0, 3)), 132);
        for (int i = 1; i < 4; i++) {
            CHECKS.due("word at " + i, exitOf(Asm.read(2, 7, 0, i)), 132);
        }
        CHECKS.due("half at 2", exitOf(Asm.read(1, 7, 0, 2)), PagedKernel.NONE);
        CHECKS.due("byte at 127", exitOf(Asm.read(0, 7, 0, 127)), PagedKernel.NONE);
        int[] kinds = {0, 1, 2, 4, 5};
        for (int f : kinds) {
            CHECKS.due("128 by " + f, exitOf(Asm.read(f, 7, 0, 128)), 133);
            CHECKS.due("-4 by " + f, exitOf(Asm.read(f, 7, 0, -4)), 133);
            CHECKS.due("2044 by " + f, exitOf(Asm.read(f, 7, 0, 2044)), 133);
            CHECKS.due("into x0 by " + f, exitOf(Asm.read(f, 0, 0, 128)), 133);
        }
        CHECKS.due("odd comes before not there", exitOf(Asm.read(1, 7, 0, 129)), 132);
        CHECKS.due("no multiple of 4 comes before not there", exitOf(Asm.read(2, 7, 0, -2)), 132);
        CHECKS.due("a half that is even is not there", exitOf(Asm.read(1, 7, 0, -2)), 133);
        CHECKS.due("no such kind", exitOf(Asm.read(3, 7, 0, 129)), 130);
    }

    private static void badPutting() {
        CHECKS.due("half at 65", exitOf(Asm.put(1, 7, 0, 65)), 134);
        for (int i = 65; i < 68; i++) {
            CHECKS.due("word at " + i, exitOf(Asm.put(2, 7, 0, i)), 134);
        }
        CHECKS.due("half at 66", exitOf(Asm.put(1, 7, 0, 66)), PagedKernel.NONE);
        CHECKS.due("byte at 127", exitOf(Asm.put(0, 7, 0, 127)), PagedKernel.NONE);
        for (int f = 0; f < 3; f++) {
            CHECKS.due("128 by " + f, exitOf(Asm.put(f, 7, 0, 128)), 135);
            CHECKS.due("-4 by " + f, exitOf(Asm.put(f, 7, 0, -4)), 135);
            CHECKS.due("-2048 by " + f, exitOf(Asm.put(f, 7, 0, -2048)), 135);
        }
        CHECKS.due("odd comes before not there", exitOf(Asm.put(1, 7, 0, 129)), 134);
        CHECKS.due("no multiple of 4 comes before not there", exitOf(Asm.put(2, 7, 0, -2)), 134);
        CHECKS.due("no such kind", exitOf(Asm.put(3, 7, 0, 129)), 130);
    }

    private static void nothingChanges() {
        int[] words = {0, Asm.BREAK, Asm.read(2, 7, 0, 1), Asm.read(2, 7, 0, -4), Asm.put(2, 7, 0, 1),
            Asm.put(2, 7, 0, -4), Asm.shift(1, 1, 7, 7, 1), Asm.registers(0, 1, 7, 7, 7)};
        int[] exits = {130, 131, 132, 133, 134, 135, 130, 130};
        for (int i = 0; i < words.length; i++) {
            PagedKernel kernel = new Program().set(7, 1234).add(words[i]).booted(4, 4);
            kernel.run(2);
            CHECKS.due("exit of " + words[i], kernel.exitOf(1), exits[i]);
            CHECKS.due("x7 stays", kernel.register(1, 7), 1234);
            CHECKS.due("x2 stays", kernel.register(1, 2), 128);
            CHECKS.due("pc stays", kernel.pc(1), 4);
            CHECKS.due("frames are free", kernel.freeFrames(), 4);
        }
    }
}
