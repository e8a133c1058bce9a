/** When a process ENDS: each sentence that names an edge, by itself. */
public final class EndEdgeTest {
    private static final Checks CHECKS = new Checks("edges of the end");
    private static final int NONE = PagedKernel.NONE;

    public static void main(String[] args) {
        framesAreFree();
        descriptorsAreNothing();
        childrenGetOne();
        childrenOfAGrandchildGetOne();
        endedChildrenOfTheLivingStay();
        childrenGetNobody();
        childrenOfAGrandchildGetNobody();
        childrenOfOne();
        endedChildrenOfOneGo();
        endedChildrenGo();
        itselfGoes();
        itselfStaysForAParent();
        oneStays();
        numbersAreFreeThen();
        CHECKS.finish();
    }

    private static Program stays() {
        return new Program().stay();
    }

    private static Program exits(int a) {
        return new Program().call(Asm.EXIT, a);
    }

    /** The ways in which process 2 may end by itself, and the exits they give. */
    private static final Program[] ENDS = {exits(7), new Program().add(0), new Program().call(Asm.KILL, 2), new Program().stay()};
    private static final int[] EXITS = {7, 130, 137, 137};

    /** 2 holds a pipe and has grown, then ends in one of the ways: by the last of them 1 kills it. */
    private static PagedKernel ended(int way) {
        Program child = new Program().call(Asm.GROW, 2).call(Asm.PIPE).call(Asm.WRITE, 2, 9).part(ENDS[way]);
        PagedKernel kernel = new Program().fork(child).delay(40).call(Asm.KILL, 2).stay().booted(40, 9);
        CHECKS.until("2 holds a byte", kernel, () -> kernel.held(0) == 1);
        CHECKS.due("and has pages", kernel.pages(2), kernel.pages(1) + 2);
        CHECKS.due("ends", kernel.descriptor(2, 0) + kernel.descriptor(2, 2), 3);
        CHECKS.until("then it ends", kernel, () -> kernel.stateOf(2) == 5);
        CHECKS.due("exit by way " + way, kernel.exitOf(2), EXITS[way]);
        return kernel;
    }

    private static void framesAreFree() {
        CHECKS.sentence("When a process ENDS, its frames are free");
        for (int way = 0; way < ENDS.length; way++) {
            PagedKernel kernel = ended(way);
            CHECKS.due("pages", kernel.pages(2), 0);
            CHECKS.due("frames", kernel.freeFrames(), 40 - kernel.pages(1));
            CHECKS.due("no word", kernel.word(2, 0), 0);
        }
    }

    private static void descriptorsAreNothing() {
        CHECKS.sentence("When a process ENDS, .. its descriptors nothing");
        for (int way = 0; way < ENDS.length; way++) {
            PagedKernel kernel = ended(way);
            for (int d = 0; d < 6; d++) {
                CHECKS.due("descriptor " + d, kernel.descriptor(2, d), NONE);
            }
            CHECKS.due("so that the pipe is free", kernel.held(0), 0);
            CHECKS.due("1 has what it had", kernel.descriptor(1, 1), 0);
        }
    }

    private static void childrenGetOne() {
        CHECKS.sentence("its children get the parent 1");
        Program second = new Program().fork(stays()).fork(stays()).call(Asm.EXIT, 22);
        PagedKernel kernel = new Program().fork(second).stay().booted(40, 9);
        CHECKS.until("2 has two children", kernel, () -> kernel.stateOf(4) == 1);
        CHECKS.due("3 has 2", kernel.parentOf(3), 2);
        CHECKS.due("4 has 2", kernel.parentOf(4), 2);
        CHECKS.until("2 has ended", kernel, () -> kernel.stateOf(2) == 5);
        CHECKS.due("3 has 1", kernel.parentOf(3), 1);
        CHECKS.due("4 has 1", kernel.parentOf(4), 1);
        CHECKS.due("2 has 1 yet", kernel.parentOf(2), 1);
        CHECKS.due("3 lives", kernel.stateOf(3), 1);
        CHECKS.due("4 lives", kernel.stateOf(4), 1);
        Program third = new Program().fork(stays()).stay();
        PagedKernel deep = new Program().fork(new Program().fork(third).delay(30).add(0)).stay().booted(40, 9);
        CHECKS.until("2 has ended", deep, () -> deep.stateOf(2) == 5);
        CHECKS.due("its child has 1", deep.parentOf(3), 1);
        CHECKS.due("the child of its child has what it had", deep.parentOf(4), 3);
    }

    /** 3, a child of 2, ends and leaves 4, which lives, and 5, which has ended: they go to 1, not to 2. */
    private static void childrenOfAGrandchildGetOne() {
        CHECKS.sentence("its children get the parent 1: though its own parent is another");
        Program third = new Program().fork(stays()).fork(exits(55)).delay(30).call(Asm.EXIT, 33);
        PagedKernel kernel = new Program().fork(new Program().fork(third).stay()).call(Asm.WAIT).keep(20).stay().booted(40, 9);
        CHECKS.until("5 has ended", kernel, () -> kernel.stateOf(5) == 5);
        CHECKS.due("4 has 3", kernel.parentOf(4), 3);
        CHECKS.due("5 has 3", kernel.parentOf(5), 3);
        CHECKS.due("1 waits for 2", kernel.stateOf(1), 4);
        CHECKS.until("3 has ended", kernel, () -> kernel.stateOf(3) == 5);
        CHECKS.due("3 has 2", kernel.parentOf(3), 2);
        CHECKS.due("4 has 1", kernel.parentOf(4), 1);
        CHECKS.due("5 has 1", kernel.parentOf(5), 1);
        CHECKS.due("4 lives", kernel.stateOf(4), 1);
        CHECKS.due("5 is there", kernel.exitOf(5), 55);
        CHECKS.due("so that 1 need not wait any more", kernel.stateOf(1), 1);
        CHECKS.until("1 has its answer", kernel, () -> kernel.register(1, 20) != 0);
        CHECKS.due("it is 5", kernel.register(1, 20), 5);
        CHECKS.due("with its exit", kernel.register(1, 11), 55);
    }

    /** The same when 1 has ended: 4 has no parent, and 5 goes, though 2 lives. */
    private static void childrenOfAGrandchildGetNobody() {
        CHECKS.sentence("its children get the parent .. 0 when process 1 has ended: though its own parent lives");
        Program third = new Program().fork(stays()).fork(exits(55)).delay(30).call(Asm.EXIT, 33);
        PagedKernel kernel = new Program().fork(new Program().delay(9).fork(third).stay()).add(0).booted(40, 9);
        CHECKS.until("5 has ended", kernel, () -> kernel.stateOf(5) == 5);
        CHECKS.due("1 has ended", kernel.stateOf(1), 5);
        CHECKS.due("5 has 3", kernel.parentOf(5), 3);
        CHECKS.until("3 has ended", kernel, () -> kernel.stateOf(3) == 5);
        CHECKS.due("3 has 2 and stays", kernel.parentOf(3), 2);
        CHECKS.due("4 has none", kernel.parentOf(4), 0);
        CHECKS.due("4 lives", kernel.stateOf(4), 1);
        CHECKS.due("5 is gone", kernel.stateOf(5), 0);
        CHECKS.due("2 lives", kernel.stateOf(2), 1);
    }

    private static void endedChildrenOfTheLivingStay() {
        CHECKS.sentence("its children get the parent 1: those that have ended too, which stay for it");
        Program second = new Program().fork(exits(33)).delay(30).call(Asm.EXIT, 22);
        PagedKernel kernel = new Program().fork(second).delay(90).call(Asm.WAIT).keep(20).call(Asm.WAIT).keep(21).stay()
            .booted(40, 9);
        CHECKS.until("3 has ended", kernel, () -> kernel.stateOf(3) == 5);
        CHECKS.due("it has 2", kernel.parentOf(3), 2);
        CHECKS.until("2 has ended", kernel, () -> kernel.stateOf(2) == 5);
        CHECKS.due("3 is there", kernel.stateOf(3), 5);
        CHECKS.due("with its exit", kernel.exitOf(3), 33);
        CHECKS.due("and has 1", kernel.parentOf(3), 1);
        CHECKS.until("1 waits for both", kernel, () -> kernel.register(1, 21) != 0);
        CHECKS.due("2 first", kernel.register(1, 20), 2);
        CHECKS.due("then 3", kernel.register(1, 21), 3);
        Program sleeper = new Program().fork(new Program().fork(exits(44)).delay(30).stay()).delay(60).call(Asm.KILL, 2)
            .call(Asm.WAIT).call(Asm.WAIT).keep(20).stay();
        PagedKernel adopts = sleeper.ran(9, 300);
        CHECKS.due("a WAIT that comes later gets it", adopts.register(1, 20), 3);
    }

    private static void childrenGetNobody() {
        CHECKS.sentence("its children get the parent .. 0 when process 1 has ended");
        Program second = new Program().delay(9).fork(stays()).fork(stays()).call(Asm.EXIT, 22);
        PagedKernel kernel = new Program().fork(second).add(0).booted(40, 9);
        CHECKS.until("1 has ended", kernel, () -> kernel.stateOf(1) == 5);
        CHECKS.until("2 has two children", kernel, () -> kernel.stateOf(4) == 1);
        CHECKS.due("3 has 2", kernel.parentOf(3), 2);
        CHECKS.until("2 has ended", kernel, () -> kernel.stateOf(2) == 0);
        CHECKS.due("3 has none", kernel.parentOf(3), 0);
        CHECKS.due("4 has none", kernel.parentOf(4), 0);
        CHECKS.due("3 lives", kernel.stateOf(3), 1);
        CHECKS.due("4 lives", kernel.stateOf(4), 1);
        CHECKS.due("there is a step", kernel.step() > 2, true);
    }

    private static void childrenOfOne() {
        CHECKS.sentence("its children get the parent .. 0 when process 1 .. is the one that ends");
        for (int way = 0; way < 3; way++) {
            Program last = way == 0 ? exits(1) : way == 1 ? new Program().add(0) : new Program().call(Asm.KILL, 1);
            Program second = new Program().fork(stays()).stay();
            PagedKernel kernel = new Program().fork(second).fork(stays()).delay(20).part(last).booted(40, 9);
            CHECKS.until("2 has a child", kernel, () -> kernel.stateOf(4) == 1);
            int child = kernel.parentOf(3) == 2 ? 3 : 4;
            CHECKS.due("2 has 1", kernel.parentOf(2), 1);
            CHECKS.due("the other has 1", kernel.parentOf(7 - child), 1);
            CHECKS.until("1 has ended", kernel, () -> kernel.stateOf(1) == 5);
            CHECKS.due("2 has none", kernel.parentOf(2), 0);
            CHECKS.due("the other has none", kernel.parentOf(7 - child), 0);
            CHECKS.due("the child of 2 has what it had", kernel.parentOf(child), 2);
            for (int p = 2; p <= 4; p++) {
                CHECKS.due(p + " lives", kernel.stateOf(p), 1);
            }
        }
    }

    private static void endedChildrenOfOneGo() {
        CHECKS.sentence("those of them with the parent 0 that have ended .. are there no longer: the children of process 1");
        Program program = new Program().fork(exits(2)).fork(stays()).fork(new Program().add(0)).delay(30).call(Asm.EXIT, 1);
        PagedKernel kernel = program.booted(40, 9);
        CHECKS.until("2 has ended", kernel, () -> kernel.stateOf(2) == 5);
        CHECKS.until("4 has ended", kernel, () -> kernel.stateOf(4) == 5);
        CHECKS.until("1 has ended", kernel, () -> kernel.stateOf(1) == 5);
        for (int p : new int[] {2, 4}) {
            CHECKS.due(p + " is gone", kernel.stateOf(p), 0);
            CHECKS.due("exit of " + p, kernel.exitOf(p), NONE);
            CHECKS.due("parent of " + p, kernel.parentOf(p), NONE);
            CHECKS.due("x17 of " + p, kernel.register(p, 17), 0);
            CHECKS.due("pc of " + p, kernel.pc(p), 0);
        }
        CHECKS.due("3 is not", kernel.stateOf(3), 1);
        CHECKS.due("3 has none", kernel.parentOf(3), 0);
    }

    private static void endedChildrenGo() {
        CHECKS.sentence("those of them with the parent 0 that have ended .. are there no longer: the children of another");
        Program second = new Program().delay(9).fork(exits(33)).fork(stays()).delay(30).call(Asm.EXIT, 22);
        PagedKernel kernel = new Program().fork(second).add(0).booted(40, 9);
        CHECKS.until("3 has ended", kernel, () -> kernel.stateOf(3) == 5);
        CHECKS.due("1 has ended", kernel.stateOf(1), 5);
        CHECKS.due("3 has 2, for which it stays", kernel.parentOf(3), 2);
        CHECKS.until("2 is gone", kernel, () -> kernel.stateOf(2) == 0);
        CHECKS.due("3 is gone with it", kernel.stateOf(3), 0);
        CHECKS.due("4 is not", kernel.stateOf(4), 1);
        CHECKS.due("1 is not", kernel.stateOf(1), 5);
    }

    private static void itselfGoes() {
        CHECKS.sentence("and it itself if its parent is 0 and its number not 1, .. there no longer");
        for (int way = 0; way < 3; way++) {
            Program last = way == 0 ? exits(7) : way == 1 ? new Program().add(0) : new Program().call(Asm.KILL, 2);
            PagedKernel kernel = new Program().fork(new Program().delay(9).part(last)).call(Asm.EXIT, 1).booted(40, 9);
            CHECKS.until("1 has ended", kernel, () -> kernel.stateOf(1) == 5);
            CHECKS.due("2 has none", kernel.parentOf(2), 0);
            int maker = 0;
            for (int i = 0; i < 500 && kernel.stateOf(2) == 1; i++) {
                maker = kernel.step();
            }
            CHECKS.due("2 made the step", maker, 2);
            CHECKS.due("and is gone by way " + way, kernel.stateOf(2), 0);
            CHECKS.due("parent", kernel.parentOf(2), NONE);
            CHECKS.due("exit", kernel.exitOf(2), NONE);
            CHECKS.due("frames", kernel.freeFrames(), 40);
            CHECKS.due("no turn", kernel.current(), 0);
            CHECKS.due("all have ended", kernel.step(), -1);
        }
        PagedKernel killed = new Program().fork(stays())
            .fork(new Program().delay(9).call(Asm.KILL, 2).keep(20).call(Asm.KILL, 2).keep(21).stay()).add(0).ran(9, 200);
        CHECKS.due("killed by another", killed.stateOf(2), 0);
        CHECKS.due("whose answer is 0", killed.register(3, 20), 0);
        CHECKS.due("and then -1", killed.register(3, 21), -1);
    }

    private static void itselfStaysForAParent() {
        CHECKS.sentence("and it itself if its parent is 0: not with another");
        for (int way = 0; way < ENDS.length; way++) {
            PagedKernel kernel = ended(way);
            CHECKS.due("its parent", kernel.parentOf(2), 1);
            kernel.run(100);
            CHECKS.due("it stays", kernel.stateOf(2), 5);
            CHECKS.due("with its exit", kernel.exitOf(2), EXITS[way]);
        }
        Program second = new Program().delay(9).fork(exits(33)).stay();
        PagedKernel orphan = new Program().fork(second).add(0).ran(9, 200);
        CHECKS.due("1 has ended", orphan.stateOf(1), 5);
        CHECKS.due("2 has none", orphan.parentOf(2), 0);
        CHECKS.due("3 has 2 and stays", orphan.stateOf(3), 5);
        CHECKS.due("with its exit", orphan.exitOf(3), 33);
    }

    private static void oneStays() {
        CHECKS.sentence("and it itself if .. its number not 1: process 1 stays");
        Program[] lasts = {exits(7), new Program().add(0), new Program().call(Asm.KILL, 1)};
        int[] exits = {7, 130, 137};
        for (int way = 0; way < 3; way++) {
            PagedKernel kernel = lasts[way].booted(40, 9);
            CHECKS.until("1 ends", kernel, () -> kernel.stateOf(1) != 1);
            kernel.run(10);
            CHECKS.due("1 is there", kernel.stateOf(1), 5);
            CHECKS.due("with its exit", kernel.exitOf(1), exits[way]);
            CHECKS.due("and no parent", kernel.parentOf(1), 0);
        }
    }

    private static void numbersAreFreeThen() {
        CHECKS.sentence("are there no longer: so that their numbers are free");
        Program second = new Program().fork(exits(5)).delay(20).add(0);
        Program fourth = new Program().delay(60).fork(stays()).keep(20).fork(stays()).keep(21).stay();
        PagedKernel kernel = new Program().fork(second).delay(9).fork(fourth).add(0).booted(40, 9);
        CHECKS.until("1 has ended", kernel, () -> kernel.stateOf(1) == 5);
        CHECKS.until("2 is gone", kernel, () -> kernel.stateOf(2) == 0);
        CHECKS.due("3 is gone with it", kernel.stateOf(3), 0);
        CHECKS.due("4 is there", kernel.stateOf(4), 1);
        CHECKS.until("4 has forked twice", kernel, () -> kernel.register(4, 21) != 0);
        CHECKS.due("2 first", kernel.register(4, 20), 2);
        CHECKS.due("then 3", kernel.register(4, 21), 3);
        CHECKS.due("its parent", kernel.parentOf(3), 4);
        CHECKS.due("no exit is left over", kernel.exitOf(3), NONE);
    }
}
