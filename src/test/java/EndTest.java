/** Promises 7, 8 and 9: kill, and what becomes of a process that ends and of its children. */
public final class EndTest {
    private static final Checks CHECKS = new Checks("ends");

    public static void main(String[] args) {
        killRefused();
        killSelf();
        killReady();
        killSleeping();
        killFirst();
        childrenGoToFirst();
        firstEnds();
        orphanEnds();
        endedOrphansGo();
        orphanParentEnds();
        firstIsWokenByAdopted();
        CHECKS.finish();
    }

    private static void killRefused() {
        int[] wrong = {0, 2, 8, 9, -1, Integer.MAX_VALUE, Integer.MIN_VALUE};
        for (int a : wrong) {
            Program program = new Program().call(Asm.KILL, a);
            PagedKernel kernel = program.ran(9, program.size());
            CHECKS.due("kill " + a, kernel.register(1, 10), -1);
            CHECKS.due("1 stays", kernel.stateOf(1), 1);
        }
        PagedKernel twice = forkedThen(new Program().nothing(1).call(Asm.KILL, 2).keep(20).call(Asm.KILL, 2).keep(21).stay(),
            new Program().stay()).booted(40, 9);
        twice.run(60);
        CHECKS.due("the first kill", twice.register(1, 20), 0);
        CHECKS.due("it has ended already", twice.register(1, 21), -1);
        CHECKS.due("it is there yet", twice.stateOf(2), 5);
        CHECKS.due("its exit", twice.exitOf(2), 137);
    }

    /** A fork, after which process 1 goes on with one part and the copy with the other. */
    private static Program forkedThen(Program first, Program copy) {
        Program program = new Program().call(Asm.FORK).add(Asm.branch(0, 10, 0, 4 + 4 * first.size()));
        first.addTo(program);
        copy.addTo(program);
        return program;
    }

    private static void killSelf() {
        Program program = new Program().call(Asm.KILL, 1);
        PagedKernel kernel = program.booted(4, 9);
        CHECKS.due("steps", kernel.run(100), 3);
        CHECKS.due("state", kernel.stateOf(1), 5);
        CHECKS.due("exit", kernel.exitOf(1), 137);
        CHECKS.due("the answer all the same", kernel.register(1, 10), 0);
        CHECKS.due("pc grows", kernel.pc(1), 12);
        CHECKS.due("no turn", kernel.current(), 0);
        CHECKS.due("row", kernel.waitingTurn(0), 0);
        CHECKS.due("frames", kernel.freeFrames(), 4);
        CHECKS.due("all have ended", kernel.step(), -1);
        PagedKernel child = forkedThen(new Program().call(Asm.WAIT).stay(), new Program().call(Asm.KILL, 2)).booted(40, 9);
        child.run(60);
        CHECKS.due("its parent gets the number", child.register(1, 10), 2);
        CHECKS.due("and the exit", child.register(1, 11), 137);
    }

    private static void killReady() {
        PagedKernel kernel = forkedThen(new Program().call(Asm.KILL, 2).stay(), new Program().stay()).booted(40, 9);
        kernel.run(5);
        CHECKS.dueRow("2 is in the row", kernel, "2");
        int pages = kernel.pages(2);
        int free = kernel.freeFrames();
        kernel.step();
        CHECKS.dueRow("and leaves it", kernel, "");
        CHECKS.due("answer", kernel.register(1, 10), 0);
        CHECKS.due("state", kernel.stateOf(2), 5);
        CHECKS.due("parent", kernel.parentOf(2), 1);
        CHECKS.due("pages", kernel.pages(2), 0);
        CHECKS.due("word", kernel.word(2, 0), 0);
        CHECKS.due("pc stays", kernel.pc(2), 8);
        CHECKS.due("x2 stays", kernel.register(2, 2), 128);
        CHECKS.due("descriptor", kernel.descriptor(2, 1), PagedKernel.NONE);
        CHECKS.due("frames", kernel.freeFrames(), free + pages);
        CHECKS.due("1 goes on", kernel.current(), 1);
    }

    /** 2 waits for its child 3; 1 kills 2, then 3. */
    private static void killSleeping() {
        Program copy = new Program().call(Asm.FORK).call(Asm.WAIT).stay();
        Program first = new Program().nothing(30).call(Asm.KILL, 2).nothing(3).call(Asm.KILL, 3).stay();
        PagedKernel kernel = forkedThen(first, copy).booted(40, 2);
        for (int i = 0; i < 200 && kernel.stateOf(2) != 4; i++) {
            kernel.step();
        }
        CHECKS.due("2 waits", kernel.stateOf(2), 4);
        for (int i = 0; i < 200 && kernel.stateOf(2) == 4; i++) {
            kernel.step();
        }
        CHECKS.due("2 has ended", kernel.stateOf(2), 5);
        CHECKS.due("its child goes to 1", kernel.parentOf(3), 1);
        CHECKS.due("and is as it was", kernel.stateOf(3) == 1 || kernel.stateOf(3) == 4, true);
        for (int i = 0; i < 200 && kernel.stateOf(3) != 5; i++) {
            kernel.step();
        }
        CHECKS.due("exit of 3", kernel.exitOf(3), 137);
        CHECKS.due("only 1 runs", kernel.step(), 1);
    }

    private static void killFirst() {
        PagedKernel kernel = forkedThen(new Program().stay(), new Program().call(Asm.KILL, 1).stay()).booted(40, 9);
        kernel.run(9);
        CHECKS.due("1's quantum has ended", kernel.current(), 0);
        kernel.run(4);
        CHECKS.due("1 has ended", kernel.stateOf(1), 5);
        CHECKS.due("exit", kernel.exitOf(1), 137);
        CHECKS.due("2 has no parent", kernel.parentOf(2), 0);
        CHECKS.due("answer", kernel.register(2, 10), 0);
        CHECKS.due("2 goes on", kernel.current(), 2);
        CHECKS.dueRow("row", kernel, "");
    }

    /** 2 forks 3, which ends, and 4, which stays; then 2 ends. */
    private static Program family(Program first, Program second) {
        Program copy = new Program().call(Asm.FORK).add(Asm.branch(0, 10, 0, 4 * (second.size() + 6)));
        copy.call(Asm.FORK).add(Asm.branch(0, 10, 0, 4 + 4 * second.size()));
        second.addTo(copy);
        copy.stay().nothing(1);
        copy.call(Asm.EXIT, 33);
        return forkedThen(first, copy);
    }

    private static void childrenGoToFirst() {
        PagedKernel kernel = family(new Program().stay(), new Program().nothing(12).call(Asm.EXIT, 22)).booted(40, 3);
        for (int i = 0; i < 200 && kernel.stateOf(3) != 5; i++) {
            kernel.step();
        }
        CHECKS.due("exit of 3", kernel.exitOf(3), 33);
        CHECKS.due("parent of 3", kernel.parentOf(3), 2);
        CHECKS.due("parent of 4", kernel.parentOf(4), 2);
        for (int i = 0; i < 200 && kernel.stateOf(2) != 5; i++) {
            kernel.step();
        }
        CHECKS.due("exit of 2", kernel.exitOf(2), 22);
        CHECKS.due("parent of 2", kernel.parentOf(2), 1);
        CHECKS.due("3 stays ended", kernel.stateOf(3), 5);
        CHECKS.due("its exit stays", kernel.exitOf(3), 33);
        CHECKS.due("its parent is 1", kernel.parentOf(3), 1);
        CHECKS.due("4 is ready", kernel.stateOf(4), 1);
        CHECKS.due("its parent is 1 too", kernel.parentOf(4), 1);
    }

    /** 1 ends while 2 has ended and 3 has not. */
    private static void firstEnds() {
        Program program = new Program().call(Asm.FORK).add(Asm.branch(0, 10, 0, 4 * 20));
        program.call(Asm.FORK).add(Asm.branch(0, 10, 0, 4 * 16)).nothing(11).call(Asm.EXIT, 11).nothing(1);
        program.mend(8, Asm.branch(0, 10, 0, program.here() - 8)).call(Asm.EXIT, 22);
        program.mend(20, Asm.branch(0, 10, 0, program.here() - 20)).stay();
        PagedKernel kernel = program.booted(40, 3);
        for (int i = 0; i < 200 && kernel.stateOf(2) != 5; i++) {
            kernel.step();
        }
        CHECKS.due("2 stays for 1", kernel.exitOf(2), 22);
        for (int i = 0; i < 200 && kernel.stateOf(1) != 5; i++) {
            kernel.step();
        }
        CHECKS.due("exit of 1", kernel.exitOf(1), 11);
        CHECKS.due("parent of 1", kernel.parentOf(1), 0);
        CHECKS.due("2 is there no longer", kernel.stateOf(2), 0);
        CHECKS.due("its parent", kernel.parentOf(2), PagedKernel.NONE);
        CHECKS.due("3 is ready", kernel.stateOf(3), 1);
        CHECKS.due("without a parent", kernel.parentOf(3), 0);
        CHECKS.due("and runs", kernel.step(), 3);
    }

    /** 1 has ended; 2, without a parent, ends and is there no longer; 1 stays. */
    private static void orphanEnds() {
        PagedKernel kernel = forkedThen(new Program().call(Asm.EXIT, 1), new Program().nothing(5).call(Asm.EXIT, 2))
            .booted(40, 9);
        kernel.run(6);
        CHECKS.due("1 has ended", kernel.stateOf(1), 5);
        CHECKS.due("2 has no parent", kernel.parentOf(2), 0);
        kernel.run(8);
        CHECKS.due("2 is ready", kernel.stateOf(2), 1);
        CHECKS.due("its last step", kernel.step(), 2);
        CHECKS.due("2 is there no longer", kernel.stateOf(2), 0);
        CHECKS.due("no exit", kernel.exitOf(2), PagedKernel.NONE);
        CHECKS.due("no register", kernel.register(2, 17), 0);
        CHECKS.due("no pc", kernel.pc(2), 0);
        CHECKS.due("frames", kernel.freeFrames(), 40);
        CHECKS.due("1 stays", kernel.exitOf(1), 1);
        CHECKS.due("all have ended", kernel.step(), -1);
        PagedKernel fault = forkedThen(new Program().add(0), new Program().nothing(12).add(0)).booted(40, 9);
        fault.run(100);
        CHECKS.due("by a fault too", fault.stateOf(2), 0);
        CHECKS.due("1's exit", fault.exitOf(1), 130);
        PagedKernel self = forkedThen(new Program().add(0), new Program().nothing(12).call(Asm.KILL, 2)).booted(40, 9);
        self.run(100);
        CHECKS.due("by its own kill too", self.stateOf(2), 0);
        CHECKS.due("its answer is gone with it", self.register(2, 17), 0);
    }

    /** 1 has ended and 2 has no parent; 3, a child of 2, has ended: it goes when 2 ends. */
    private static void endedOrphansGo() {
        PagedKernel kernel = family(new Program().call(Asm.EXIT, 1), new Program().nothing(12).call(Asm.EXIT, 22)).booted(40, 3);
        for (int i = 0; i < 200 && kernel.stateOf(3) != 5; i++) {
            kernel.step();
        }
        CHECKS.due("1 has ended", kernel.stateOf(1), 5);
        CHECKS.due("2 has no parent", kernel.parentOf(2), 0);
        CHECKS.due("3 has 2", kernel.parentOf(3), 2);
        for (int i = 0; i < 200 && kernel.stateOf(2) != 0; i++) {
            kernel.step();
        }
        CHECKS.due("2 is there no longer", kernel.stateOf(2), 0);
        CHECKS.due("nor is 3", kernel.stateOf(3), 0);
        CHECKS.due("4 is", kernel.stateOf(4), 1);
        CHECKS.due("without a parent", kernel.parentOf(4), 0);
        CHECKS.due("it runs", kernel.step(), 4);
    }

    /** 1 has ended; 2 waits for 3 and gets it, as a parent that is not 1. */
    private static void orphanParentEnds() {
        Program copy = new Program().call(Asm.FORK).add(Asm.branch(0, 10, 0, 4 * 6));
        copy.call(Asm.WAIT).add(Asm.number(0, 21, 11, 0)).stay().nothing(1).call(Asm.EXIT, 44);
        PagedKernel kernel = forkedThen(new Program().call(Asm.EXIT, 1), copy).booted(40, 3);
        kernel.run(100);
        CHECKS.due("1 has ended", kernel.stateOf(1), 5);
        CHECKS.due("2 has the number", kernel.register(2, 10), 3);
        CHECKS.due("and the exit", kernel.register(2, 21), 44);
        CHECKS.due("3 is gone", kernel.stateOf(3), 0);
    }

    /** 1 waits for 2 and gets it, waits again and gets 3, which it had from 2 when that ended. */
    private static void firstIsWokenByAdopted() {
        Program first = new Program().call(Asm.WAIT).keep(20).call(Asm.WAIT).keep(21).call(Asm.WAIT).keep(22).stay();
        PagedKernel kernel = family(first, new Program().nothing(15).call(Asm.EXIT, 22)).booted(40, 3);
        for (int i = 0; i < 200 && kernel.register(1, 21) == 0; i++) {
            kernel.step();
        }
        CHECKS.due("2 first", kernel.register(1, 20), 2);
        CHECKS.due("then 3", kernel.register(1, 21), 3);
        CHECKS.due("its exit", kernel.register(1, 11), 33);
        kernel.run(20);
        CHECKS.due("then it waits for 4", kernel.stateOf(1), 4);
        CHECKS.due("4 is its child", kernel.parentOf(4), 1);
    }
}
