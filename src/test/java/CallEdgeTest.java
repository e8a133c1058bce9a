/** The term CALLS, the calls 0 to 5, 11 and those that are none: each sentence that names an edge, by itself. */
public final class CallEdgeTest {
    private static final Checks CHECKS = new Checks("edges of the calls");
    private static final int LEAST = Integer.MIN_VALUE;
    private static final int MOST = Integer.MAX_VALUE;

    public static void main(String[] args) {
        callsGoByX17();
        pcGrows();
        nothingElseChanges();
        yields();
        exits();
        ownNumber();
        forkIsACopy();
        forkWithoutNumber();
        forkWithoutFrames();
        waitTakesTheLeast();
        waitWithoutChildren();
        waitSleeps();
        grows();
        growRefused();
        kills();
        killRefused();
        killsItself();
        others();
        CHECKS.finish();
    }

    private static Program stays() {
        return new Program().stay();
    }

    private static Program ends() {
        return new Program().add(0);
    }

    private static void callsGoByX17() {
        CHECKS.sentence("CALLS go by x17, with x10 = a; the answer comes to x10 (some also change x11)");
        int[] kinds = {Asm.YIELD, Asm.OWN_NUMBER, Asm.FORK, Asm.WAIT, Asm.GROW, Asm.WRITE, Asm.READ, Asm.CLOSE, Asm.DUP,
            Asm.KILL, 12};
        int[] answers = {1, 1, 2, -1, 3, 91, -1, 0, 0, 0, -1};
        for (int i = 0; i < kinds.length; i++) {
            PagedKernel kernel = LastCall.answers(CHECKS, "call " + kinds[i], new Program().call(kinds[i], 1, 4096 + 91),
                answers[i]);
            CHECKS.due("x11 stays after " + kinds[i], kernel.register(1, 11), 4096 + 91);
            CHECKS.due("x17 stays after " + kinds[i], kernel.register(1, 17), kinds[i]);
        }
        PagedKernel pipe = LastCall.answers(CHECKS, "call 8", new Program().call(Asm.PIPE, 1, 4096 + 91), 0);
        CHECKS.due("x11 after 8", pipe.register(1, 11), 2);
    }

    private static void pcGrows() {
        CHECKS.sentence("The PC grows by 4, unless the process becomes READING, WRITING or WAITING");
        for (int kind = -1; kind < 14; kind++) {
            Program program = new Program().call(kind, 1);
            PagedKernel kernel = program.ran(9, program.size());
            CHECKS.due("pc after " + kind, kernel.pc(1), program.here());
        }
    }

    private static void nothingElseChanges() {
        CHECKS.sentence("The PC grows by 4, unless the process becomes READING, WRITING or WAITING: then nothing else changes");
        LastCall.sleeps(CHECKS, "READING", new Program().call(Asm.PIPE).call(Asm.READ, 0, 77), 2);
        Program full = new Program().call(Asm.PIPE).set(17, Asm.WRITE);
        for (int i = 0; i < 9; i++) {
            full.set(10, 2).add(Asm.CALL);
        }
        LastCall.sleeps(CHECKS, "WRITING", full, 3);
        LastCall.sleeps(CHECKS, "WAITING", new Program().fork(stays()).call(Asm.WAIT, 55, 77), 4);
    }

    private static void yields() {
        CHECKS.sentence("0 YIELD: no answer (x10 stays)");
        for (int a : new int[] {0, -1, 5, LEAST, MOST}) {
            PagedKernel kernel = LastCall.answers(CHECKS, "x10 " + a, new Program().call(Asm.YIELD, a, 3), a);
            CHECKS.due("ready", kernel.stateOf(1), 1);
            CHECKS.due("no turn", kernel.current(), 0);
            CHECKS.due("x11", kernel.register(1, 11), 3);
        }
    }

    private static void exits() {
        CHECKS.sentence("1 EXIT: the process ends with the exit a; no answer");
        for (int a : new int[] {0, 1, -1, 255, 256, LEAST, MOST}) {
            PagedKernel kernel = LastCall.answers(CHECKS, "x10 stays", new Program().call(Asm.EXIT, a), a);
            CHECKS.due("ended", kernel.stateOf(1), 5);
            CHECKS.due("exit", kernel.exitOf(1), a);
        }
    }

    private static void ownNumber() {
        CHECKS.sentence("2: its number");
        Program program = new Program().set(17, Asm.FORK).add(Asm.CALL, Asm.branch(4, 0, 10, -4)).call(Asm.OWN_NUMBER, -5)
            .keep(20).stay();
        PagedKernel kernel = program.ran(9, 200);
        for (int p = 1; p <= 8; p++) {
            CHECKS.due("of " + p, kernel.register(p, 20), p);
        }
    }

    private static void forkIsACopy() {
        CHECKS.sentence("3 FORK: a new process that is a copy (pages, registers, PC + 4, descriptors), its parent this one");
        Program program = new Program().set(31, -31).set(11, 11).call(Asm.GROW, 6).add(Asm.put(0, 31, 0, 511));
        program.call(Asm.PIPE).call(Asm.PIPE).call(Asm.DUP, 1).call(Asm.FORK, 9);
        PagedKernel kernel = LastCall.answers(CHECKS, "the answer here is its number", program, 2);
        CHECKS.due("eight pages", kernel.pages(2), 8);
        CHECKS.due("the last byte", kernel.word(2, 508), 0xE1000000);
        CHECKS.due("the last descriptor", kernel.descriptor(2, 5), 0);
        CHECKS.due("pc", kernel.pc(2), program.here());
        CHECKS.due("the answer there", kernel.register(2, 10), 0);
        String parent = Look.own(kernel, 1, true);
        CHECKS.dueText("all else is the same", Look.own(kernel, 2, true), parent);
        CHECKS.due("parent", kernel.parentOf(2), 1);
        CHECKS.due("ready", kernel.stateOf(2), 1);
        CHECKS.due("frames", kernel.freeFrames(), 40 - 16);
        PagedKernel deep = new Program().call(Asm.FORK).call(Asm.FORK).stay().ran(9, 60);
        int[] parents = {0, 1, 1, 2};
        for (int p = 1; p <= 4; p++) {
            CHECKS.due("parent of " + p, deep.parentOf(p), parents[p - 1]);
        }
    }

    private static void forkWithoutNumber() {
        CHECKS.sentence("3 FORK: -1 when no number .. is free");
        Program program = new Program();
        for (int i = 0; i < 7; i++) {
            program.fork(stays());
        }
        LastCall.refused(CHECKS, "eight that live", new Program().part(program).call(Asm.FORK));
        program = new Program();
        for (int i = 0; i < 7; i++) {
            program.fork(ends());
        }
        program.delay(20);
        PagedKernel ended = LastCall.refused(CHECKS, "seven that have ended", new Program().part(program).call(Asm.FORK));
        CHECKS.due("frames are there", ended.freeFrames() > 20, true);
        PagedKernel waited = LastCall.answers(CHECKS, "one was waited for",
            new Program().part(program).call(Asm.WAIT).call(Asm.FORK), 2);
        CHECKS.due("it is new", waited.stateOf(2), 1);
    }

    private static void forkWithoutFrames() {
        CHECKS.sentence("3 FORK: -1 when .. too few frames are free");
        Program program = new Program().call(Asm.FORK, 9, 5);
        LastCall.refused(CHECKS, "none is free", program, 2);
        LastCall.refused(CHECKS, "one too few", program, 3);
        PagedKernel just = LastCall.answers(CHECKS, "just enough", program, 4, 2);
        CHECKS.due("none is left", just.freeFrames(), 0);
        Program grown = new Program().call(Asm.GROW, 6).call(Asm.FORK);
        LastCall.refused(CHECKS, "seven for eight pages", grown, 15);
        LastCall.answers(CHECKS, "eight for eight pages", grown, 16, 2);
        Program freed = new Program().fork(ends()).delay(9).call(Asm.FORK);
        LastCall.answers(CHECKS, "the frames of one that has ended", freed, 4, 3);
    }

    private static void waitTakesTheLeast() {
        CHECKS.sentence("4 WAIT: of its children that have ended the one with the least number is there no longer");
        Program program = new Program().fork(stays()).fork(new Program().delay(20).call(Asm.EXIT, 33))
            .fork(new Program().call(Asm.EXIT, 44));
        program.delay(90).call(Asm.WAIT);
        PagedKernel kernel = LastCall.answers(CHECKS, "3, though 4 ended before and 2 has not", program, 3);
        CHECKS.due("3 is there no longer", kernel.stateOf(3), 0);
        CHECKS.due("4 is there", kernel.exitOf(4), 44);
        CHECKS.due("2 is there", kernel.stateOf(2), 1);

        CHECKS.sentence("4 WAIT: the answer is that number, and x11 becomes its exit");
        CHECKS.due("x11", kernel.register(1, 11), 33);
        for (int exit : new int[] {-1, LEAST, MOST, 0}) {
            Program one = new Program().set(11, 5).fork(new Program().call(Asm.EXIT, exit)).delay(20).call(Asm.WAIT);
            PagedKernel other = LastCall.answers(CHECKS, "answer", one, 2);
            CHECKS.due("x11 for " + exit, other.register(1, 11), exit);
        }
        PagedKernel again = LastCall.answers(CHECKS, "then 4", program.call(Asm.WAIT), 4);
        CHECKS.due("its exit", again.register(1, 11), 44);
    }

    private static void waitWithoutChildren() {
        CHECKS.sentence("4 WAIT: -1 (x11 staying) when it has no children");
        LastCall.refused(CHECKS, "never any", new Program().call(Asm.WAIT, 3, 99));
        LastCall.refused(CHECKS, "none any more", new Program().fork(ends()).call(Asm.WAIT).set(11, 99).call(Asm.WAIT));
        Program alone = new Program().delay(20).set(11, 99).call(Asm.WAIT).keep(20).stay();
        PagedKernel sibling = new Program().fork(alone).fork(ends()).stay().ran(9, 200);
        CHECKS.due("3 has ended", sibling.stateOf(3), 5);
        CHECKS.due("but is no child of 2", sibling.register(2, 20), -1);
        CHECKS.due("x11 of 2", sibling.register(2, 11), 99);
        Program middle = new Program().fork(new Program().delay(30).add(0)).call(Asm.EXIT, 0);
        PagedKernel orphan = new Program().fork(new Program().delay(20).call(Asm.WAIT).keep(20).stay()).fork(middle)
            .call(Asm.WAIT).call(Asm.WAIT).call(Asm.WAIT).ran(9, 300);
        CHECKS.due("nor are those that 1 took over", orphan.register(2, 20), -1);
    }

    private static void waitSleeps() {
        CHECKS.sentence("4 WAIT: otherwise it is WAITING until one has ended");
        PagedKernel kernel = LastCall.sleeps(CHECKS, "waiting",
            new Program().fork(new Program().delay(40).call(Asm.EXIT, 6)).call(Asm.WAIT), 4);
        for (int i = 0; i < 500 && kernel.stateOf(2) == 1 && kernel.step() == 2; i++) {
            CHECKS.due("until 2 has ended", kernel.stateOf(1) == 4, kernel.stateOf(2) == 1);
        }
        CHECKS.due("2 has ended", kernel.exitOf(2), 6);
        CHECKS.due("2 is there until the call is made again", kernel.register(1, 10), 2);
        kernel.step();
        CHECKS.due("then it is not", kernel.stateOf(2), 0);
        CHECKS.due("x11", kernel.register(1, 11), 6);
        // The child of a child that ends wakes nobody but its own parent.
        Program child = new Program().fork(new Program().delay(20).add(0)).stay();
        PagedKernel grand = new Program().fork(child).call(Asm.WAIT).stay().ran(9, 200);
        CHECKS.due("3 has ended", grand.stateOf(3), 5);
        CHECKS.due("2 is its parent", grand.parentOf(3), 2);
        CHECKS.due("1 waits on", grand.stateOf(1), 4);
        // A living one that 1 gets from another wakes it when it ends, not before.
        Program second = new Program().fork(new Program().fork(new Program().delay(60).call(Asm.EXIT, 44)).add(0)).stay();
        PagedKernel got = new Program().fork(second).call(Asm.WAIT).keep(20).stay().booted(40, 9);
        CHECKS.until("4 has 1", got, () -> got.parentOf(4) == 1);
        CHECKS.due("3 has ended", got.stateOf(3), 5);
        CHECKS.due("1 waits on for all that", got.stateOf(1), 4);
        CHECKS.until("4 has ended", got, () -> got.stateOf(4) == 5);
        CHECKS.due("1 waits no more", got.stateOf(1), 1);
        CHECKS.until("1 has its answer", got, () -> got.register(1, 20) != 0);
        CHECKS.due("it is 4", got.register(1, 20), 4);
    }

    private static void grows() {
        CHECKS.sentence("5 GROW: it has a pages more, each in the next frame got; the answer is how many it has then");
        for (int a = 1; a <= 6; a++) {
            PagedKernel kernel = LastCall.answers(CHECKS, "grow " + a, new Program().call(Asm.GROW, a, 7), 2 + a);
            CHECKS.due("pages", kernel.pages(1), 2 + a);
            CHECKS.due("frames", kernel.freeFrames(), 38 - a);
            CHECKS.due("x2 stays", kernel.register(1, 2), 128);
            CHECKS.due("x11 stays", kernel.register(1, 11), 7);
            CHECKS.due("the program stays", kernel.word(1, 4), Asm.number(0, 10, 0, a));
        }
    }

    private static void growRefused() {
        CHECKS.sentence("5 GROW: -1 when a is not 1 .. 8");
        for (int a : new int[] {0, -1, 9, -8, 256, LEAST, LEAST + 1, MOST, MOST - 1}) {
            LastCall.refused(CHECKS, "grow " + a, new Program().call(Asm.GROW, a, 7));
        }
        CHECKS.sentence("5 GROW: -1 when .. it would have more than 8");
        LastCall.refused(CHECKS, "seven to two", new Program().call(Asm.GROW, 7));
        LastCall.refused(CHECKS, "eight to two", new Program().call(Asm.GROW, 8));
        LastCall.answers(CHECKS, "six to two", new Program().call(Asm.GROW, 6), 8);
        LastCall.refused(CHECKS, "one to eight", new Program().call(Asm.GROW, 6).call(Asm.GROW, 1));
        LastCall.answers(CHECKS, "one to seven", new Program().call(Asm.GROW, 5).call(Asm.GROW, 1), 8);
        LastCall.refused(CHECKS, "two to seven", new Program().call(Asm.GROW, 5).call(Asm.GROW, 2));

        CHECKS.sentence("5 GROW: -1 when .. too few frames are free");
        LastCall.refused(CHECKS, "none is free", new Program().call(Asm.GROW, 1), 2);
        LastCall.refused(CHECKS, "one for two", new Program().call(Asm.GROW, 2), 3);
        LastCall.answers(CHECKS, "one for one", new Program().call(Asm.GROW, 1), 3, 3);
        LastCall.refused(CHECKS, "five for six", new Program().call(Asm.GROW, 6), 7);
        LastCall.answers(CHECKS, "six for six", new Program().call(Asm.GROW, 6), 8, 8);
    }

    private static void kills() {
        CHECKS.sentence("11 KILL: the process number a ends with the exit 137; 0");
        PagedKernel ready = LastCall.answers(CHECKS, "one that is ready", new Program().fork(stays()).call(Asm.KILL, 2, 7), 0);
        dueKilled(ready, 2);
        CHECKS.due("x11 stays", ready.register(1, 11), 7);
        Program reader = new Program().call(Asm.PIPE).call(Asm.READ, 0);
        PagedKernel reading = LastCall.answers(CHECKS, "one that reads",
            new Program().fork(reader).delay(9).call(Asm.KILL, 2), 0);
        dueKilled(reading, 2);
        Program writer = new Program().call(Asm.PIPE).set(17, Asm.WRITE).set(10, 2).add(Asm.CALL, Asm.jal(0, -8));
        PagedKernel writing = LastCall.answers(CHECKS, "one that writes",
            new Program().fork(writer).delay(60).call(Asm.KILL, 2), 0);
        dueKilled(writing, 2);
        Program waiter = new Program().fork(stays()).call(Asm.WAIT);
        PagedKernel waiting = LastCall.answers(CHECKS, "one that waits",
            new Program().fork(waiter).delay(20).call(Asm.KILL, 2), 0);
        dueKilled(waiting, 2);
        CHECKS.due("its child lives", waiting.stateOf(3), 1);
        Program seven = new Program();
        for (int i = 0; i < 7; i++) {
            seven.fork(stays());
        }
        dueKilled(LastCall.answers(CHECKS, "the last one", seven.call(Asm.KILL, 8), 0), 8);
        PagedKernel parent = new Program().fork(new Program().call(Asm.KILL, 1).keep(20).stay()).delay(40).stay().ran(9, 60);
        CHECKS.due("a parent by its child", parent.exitOf(1), 137);
        CHECKS.due("the child's answer", parent.register(2, 20), 0);
    }

    private static void dueKilled(PagedKernel kernel, int p) {
        CHECKS.due("state", kernel.stateOf(p), 5);
        CHECKS.due("exit", kernel.exitOf(p), 137);
        CHECKS.due("pages", kernel.pages(p), 0);
        for (int i = 0; i < 8; i++) {
            CHECKS.due("place " + i + " of the row is not its", kernel.waitingTurn(i) == p, false);
        }
        for (int i = 0; i < 30; i++) {
            CHECKS.due("it makes no step more", kernel.step() == p, false);
        }
    }

    private static void killRefused() {
        CHECKS.sentence("11 KILL: -1 when a is no process");
        for (int a : new int[] {0, 2, 8, 9, -1, 16, LEAST, LEAST + 1, MOST}) {
            LastCall.refused(CHECKS, "kill " + a, new Program().call(Asm.KILL, a, 7));
        }
        LastCall.refused(CHECKS, "one that was waited for", new Program().fork(ends()).call(Asm.WAIT).call(Asm.KILL, 2));
        CHECKS.sentence("11 KILL: -1 when a .. has ended");
        PagedKernel ended = LastCall.refused(CHECKS, "one that has ended",
            new Program().fork(new Program().call(Asm.EXIT, 5)).delay(20).call(Asm.KILL, 2));
        CHECKS.due("its exit stays", ended.exitOf(2), 5);
        PagedKernel twice = LastCall.refused(CHECKS, "one that was killed",
            new Program().fork(stays()).call(Asm.KILL, 2).call(Asm.KILL, 2));
        CHECKS.due("its exit stays too", twice.exitOf(2), 137);
        PagedKernel first = new Program().fork(new Program().delay(9).call(Asm.KILL, 1).keep(20).stay()).call(Asm.EXIT, 3)
            .ran(9, 100);
        CHECKS.due("process 1, which is there for ever", first.register(2, 20), -1);
        CHECKS.due("with the exit it had", first.exitOf(1), 3);
    }

    private static void killsItself() {
        CHECKS.sentence("(It may be the one that calls, which gets its answer all the same.)");
        PagedKernel kernel = LastCall.answers(CHECKS, "the answer", new Program().call(Asm.KILL, 1, 7), 0);
        CHECKS.due("ended", kernel.stateOf(1), 5);
        CHECKS.due("exit", kernel.exitOf(1), 137);
        CHECKS.due("no turn", kernel.current(), 0);
        CHECKS.dueRow("nor is it in the row", kernel, "");
        CHECKS.due("all have ended", kernel.step(), -1);
        PagedKernel child = new Program().fork(new Program().call(Asm.KILL, 2)).stay().booted(12, 9);
        CHECKS.until("2 has ended", child, () -> child.stateOf(2) == 5);
        CHECKS.due("its answer", child.register(2, 10), 0);
        CHECKS.due("its pc", child.pc(2), 24);
        PagedKernel orphan = new Program().fork(new Program().delay(9).call(Asm.KILL, 2)).add(0).booted(12, 9);
        CHECKS.until("1 has ended", orphan, () -> orphan.stateOf(1) == 5);
        CHECKS.until("one without a parent is gone by it", orphan, () -> orphan.stateOf(2) == 0);
        CHECKS.due("so that nothing of it is seen", orphan.register(2, 17), 0);
    }

    private static void others() {
        CHECKS.sentence("Others: -1");
        for (int kind : new int[] {12, 13, 64, 128, 256, -1, -11, LEAST, LEAST + 3, MOST, 65536 + 3}) {
            LastCall.refused(CHECKS, "call " + kind, new Program().call(kind, 1, 65));
        }
    }
}
