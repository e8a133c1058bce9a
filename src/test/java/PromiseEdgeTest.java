/** Promises 1 to 19: each sentence of theirs that names an edge, by itself. */
public final class PromiseEdgeTest {
    private static final Checks CHECKS = new Checks("edges of the promises");
    private static final int NONE = PagedKernel.NONE;
    private static final int LEAST = Integer.MIN_VALUE;
    private static final int MOST = Integer.MAX_VALUE;
    private static final int[] NO_PROCESS = {0, 9, 10, -1, -8, 16, 64, LEAST, LEAST + 1, MOST};

    public static void main(String[] args) {
        promise1();
        promise2();
        promise3();
        bootRefused();
        stepAnswers();
        stepAsleep();
        stepEnded();
        promise5();
        promise6();
        promise7();
        promise8();
        promise9();
        promise10();
        promise11();
        promise12();
        promise13();
        promise14();
        promise15();
        promise16();
        promise17And18();
        promise19();
        calls512();
        CHECKS.finish();
    }

    private static void promise1() {
        CHECKS.sentence("1: So many frames (1 .. 40, else 12), all free");
        int[] frames = {1, 2, 39, 40, 0, 41, -1, -12, 100, LEAST, MOST};
        int[] free = {1, 2, 39, 40, 12, 12, 12, 12, 12, 12, 12};
        for (int i = 0; i < frames.length; i++) {
            CHECKS.due("frames " + frames[i], new PagedKernel(frames[i], 4).freeFrames(), free[i]);
        }
        PagedKernel all = eight(64).booted(40, 9);
        CHECKS.until("eight processes of five pages", all, () -> all.stateOf(8) != 0);
        CHECKS.due("use all 40 frames", all.freeFrames(), 0);
        CHECKS.due("pages of the last", all.pages(8), 5);

        CHECKS.sentence("1: the quantum (1 .. 9, else 4)");
        int[] quantum = {1, 2, 4, 8, 9, 0, 10, -1, -4, 100, LEAST, MOST};
        int[] steps = {1, 2, 4, 8, 9, 4, 4, 4, 4, 4, 4, 4};
        for (int i = 0; i < quantum.length; i++) {
            PagedKernel kernel = new Program().stay().booted(2, quantum[i]);
            CHECKS.due("quantum " + quantum[i], stepsOfTurn(kernel), steps[i]);
            CHECKS.due("the next turn too", stepsOfTurn(kernel), steps[i]);
        }

        CHECKS.sentence("1: No program, not booted, an empty console");
        PagedKernel fresh = new PagedKernel(5, 3);
        CHECKS.due("not booted", fresh.step(), -1);
        CHECKS.due("no program", fresh.boot(), 2);
        CHECKS.due("it takes words", fresh.load(Asm.NOTHING), true);
        CHECKS.due("and was not booted", fresh.boot(), 0);
        CHECKS.due("the program is that word alone", fresh.word(1, 0), Asm.NOTHING);
        CHECKS.due("nothing behind it", fresh.word(1, 4), 0);
        CHECKS.due("console", new PagedKernel(5, 3).consoleLength(), 0);
        CHECKS.due("its byte 0", new PagedKernel(5, 3).console(0), NONE);
    }

    /** Process 1 forks until a fork is refused; all stay. The program is made so long by words behind it. */
    private static Program eight(int length) {
        Program program = new Program().set(17, Asm.FORK).add(Asm.CALL, Asm.branch(4, 0, 10, -4)).stay();
        return program.nothing(length - program.size());
    }

    private static int stepsOfTurn(PagedKernel kernel) {
        for (int steps = 1; steps < 20; steps++) {
            kernel.step();
            if (kernel.current() == 0) {
                return steps;
            }
        }
        return -1;
    }

    private static void promise2() {
        CHECKS.sentence("2: A word more of the program. Answers true");
        int[] words = {LEAST, MOST, 0, -1, 1};
        PagedKernel kernel = new PagedKernel(40, 4);
        for (int word : words) {
            CHECKS.due("load " + word, kernel.load(word), true);
        }
        kernel.boot();
        for (int i = 0; i < words.length; i++) {
            CHECKS.due("word " + i, kernel.word(1, 4 * i), words[i]);
        }

        CHECKS.sentence("2: false when it was booted");
        CHECKS.due("just booted", kernel.load(7), false);
        CHECKS.due("nothing is added", kernel.word(1, 4 * words.length), 0);
        kernel.run(5);
        CHECKS.due("all have ended", kernel.load(7), false);

        CHECKS.sentence("2: false when it .. has 64");
        PagedKernel full = new PagedKernel(40, 4);
        for (int i = 0; i < 63; i++) {
            full.load(100 + i);
        }
        CHECKS.due("the 64th", full.load(163), true);
        CHECKS.due("the 65th", full.load(164), false);
        CHECKS.due("and again", full.load(165), false);
        CHECKS.due("boot", full.boot(), 0);
        CHECKS.due("the first word stays", full.word(1, 0), 100);
        CHECKS.due("the last word is the 64th", full.word(1, 252), 163);
        CHECKS.due("the refused one is nowhere", full.word(1, 256), 0);
        CHECKS.due("pages for 64", full.pages(1), 5);
    }

    private static void promise3() {
        CHECKS.sentence("3: pages for the program, which is copied to their beginning, and one page more");
        int[] lengths = {1, 15, 16, 17, 31, 32, 33, 48, 49, 63, 64};
        int[] pages = {2, 2, 2, 3, 3, 3, 4, 4, 5, 5, 5};
        for (int i = 0; i < lengths.length; i++) {
            PagedKernel kernel = new PagedKernel(40, 4);
            for (int n = 0; n < lengths[i]; n++) {
                kernel.load(-7 - n);
            }
            CHECKS.due("boot of " + lengths[i], kernel.boot(), 0);
            CHECKS.due("pages for " + lengths[i], kernel.pages(1), pages[i]);
            CHECKS.due("frames left", kernel.freeFrames(), 40 - pages[i]);
            for (int n = 0; n < 16 * pages[i]; n++) {
                CHECKS.due("word " + n, kernel.word(1, 4 * n), n < lengths[i] ? -7 - n : 0);
            }
            CHECKS.due("x2 for " + lengths[i], kernel.register(1, 2), 64 * pages[i]);
        }

        CHECKS.sentence("3: PC 0, x2 = 64 times its pages, all other registers 0, parent 0, descriptor 1 the "
            + "console; it is ready");
        PagedKernel kernel = new Program().stay().booted(12, 4);
        CHECKS.due("pc", kernel.pc(1), 0);
        for (int k = 0; k < 32; k++) {
            CHECKS.due("x" + k, kernel.register(1, k), k == 2 ? 128 : 0);
        }
        CHECKS.due("parent", kernel.parentOf(1), 0);
        for (int d = 0; d < 6; d++) {
            CHECKS.due("descriptor " + d, kernel.descriptor(1, d), d == 1 ? 0 : NONE);
        }
        CHECKS.due("ready", kernel.stateOf(1), 1);
        CHECKS.dueRow("in the row", kernel, "1");
        CHECKS.due("without the turn", kernel.current(), 0);
    }

    private static void bootRefused() {
        CHECKS.sentence("3: Answers .. 1 when it was booted");
        PagedKernel kernel = new Program().set(5, 3).stay().booted(12, 4);
        String before = Look.all(kernel);
        CHECKS.due("at once", kernel.boot(), 1);
        CHECKS.dueText("nothing changes", Look.all(kernel), before);
        kernel.run(3);
        before = Look.all(kernel);
        CHECKS.due("later", kernel.boot(), 1);
        CHECKS.dueText("nothing changes then", Look.all(kernel), before);
        PagedKernel ended = new Program().add(0).booted(12, 4);
        ended.step();
        CHECKS.due("all have ended", ended.boot(), 1);
        CHECKS.due("it stays ended", ended.stateOf(1), 5);

        CHECKS.sentence("3: 2 when there is no program (nothing changes then)");
        PagedKernel empty = new PagedKernel(40, 4);
        before = Look.all(empty);
        CHECKS.due("no program", empty.boot(), 2);
        CHECKS.due("again, not 1", empty.boot(), 2);
        CHECKS.dueText("nothing changes", Look.all(empty), before);
        CHECKS.due("load goes on", empty.load(Asm.NOTHING), true);
        CHECKS.due("and boot", empty.boot(), 0);

        CHECKS.sentence("3: 2 when there .. are too few frames (nothing changes then)");
        for (int length : new int[] {1, 16, 17, 64}) {
            int needed = (length + 15) / 16 + 1;
            PagedKernel narrow = new Program().nothing(length).loaded(needed - 1, 4);
            before = Look.all(narrow);
            CHECKS.due("one too few for " + length, narrow.boot(), 2);
            CHECKS.due("again, not 1", narrow.boot(), 2);
            CHECKS.dueText("nothing changes", Look.all(narrow), before);
            CHECKS.due("no step", narrow.step(), -1);
            CHECKS.due("load goes on but for 64", narrow.load(1), length < 64);
            PagedKernel just = new Program().nothing(length).loaded(needed, 4);
            CHECKS.due("just enough for " + length, just.boot(), 0);
            CHECKS.due("none left", just.freeFrames(), 0);
        }
    }

    private static void stepAnswers() {
        CHECKS.sentence("4: Answers the number of the process that made it");
        PagedKernel kernel = new Program().fork(new Program().nothing(1).add(0)).call(Asm.EXIT, 0).booted(12, 9);
        int[] makers = {1, 1, 1, 1, 1, 1, 2, 2, 2};
        for (int i = 0; i < makers.length; i++) {
            CHECKS.due("step " + i, kernel.step(), makers[i]);
        }
        CHECKS.due("2 made a step and is there no longer", kernel.stateOf(2), 0);
        CHECKS.due("now none", kernel.step(), -1);
    }

    private static PagedKernel asleep(Program program) {
        PagedKernel kernel = program.booted(40, 9);
        for (int i = 0; i < 10 && kernel.run(100) == 100; i++) {
            CHECKS.due("it falls asleep in time", i < 9, true);
        }
        return kernel;
    }

    private static void dueAsleep(PagedKernel kernel) {
        String before = Look.all(kernel);
        CHECKS.due("step", kernel.step(), 0);
        CHECKS.due("step again", kernel.step(), 0);
        CHECKS.due("run", kernel.run(100), 0);
        CHECKS.dueText("nothing changes", Look.all(kernel), before);
    }

    private static void stepAsleep() {
        CHECKS.sentence("4: 0 when there is none because all that have not ended are READING");
        PagedKernel reading = asleep(new Program().call(Asm.PIPE).call(Asm.READ, 0).stay());
        CHECKS.due("reading", reading.stateOf(1), 2);
        dueAsleep(reading);

        CHECKS.sentence("4: 0 when there is none because all that have not ended are .. WRITING");
        PagedKernel writing = asleep(new Program().call(Asm.PIPE).set(17, Asm.WRITE).set(10, 2).add(Asm.CALL, Asm.jal(0, -8)));
        CHECKS.due("writing", writing.stateOf(1), 3);
        dueAsleep(writing);

        CHECKS.sentence("4: 0 when there is none because all that have not ended are .. WAITING");
        PagedKernel waiting = asleep(new Program().fork(new Program().call(Asm.PIPE).call(Asm.READ, 0).stay()).call(Asm.WAIT)
            .stay());
        CHECKS.due("waiting", waiting.stateOf(1), 4);
        CHECKS.due("for one that reads", waiting.stateOf(2), 2);
        dueAsleep(waiting);

        CHECKS.sentence("4: 0 when .. all that have not ended are READING, WRITING or WAITING, though others have ended");
        PagedKernel child = asleep(new Program().fork(new Program().add(0)).call(Asm.PIPE).call(Asm.READ, 0));
        CHECKS.due("2 has ended", child.stateOf(2), 5);
        dueAsleep(child);
        PagedKernel parent = asleep(new Program().fork(new Program().call(Asm.PIPE).call(Asm.READ, 0)).add(0));
        CHECKS.due("1 has ended", parent.stateOf(1), 5);
        dueAsleep(parent);
    }

    private static void stepEnded() {
        CHECKS.sentence("4: -1 when all have ended");
        PagedKernel one = new Program().call(Asm.EXIT, 0).booted(12, 9);
        CHECKS.due("steps", one.run(100), 3);
        String before = Look.all(one);
        CHECKS.due("step", one.step(), -1);
        CHECKS.due("step again", one.step(), -1);
        CHECKS.dueText("nothing changes", Look.all(one), before);
        PagedKernel two = new Program().fork(new Program().delay(9).call(Asm.KILL, 1).add(0)).stay().booted(12, 9);
        CHECKS.until("1 is ended by 2", two, () -> two.stateOf(1) == 5);
        CHECKS.due("2 has not", two.step(), 2);
        CHECKS.due("now all have", two.step(), -1);

        CHECKS.sentence("4: -1 when .. it was not booted");
        PagedKernel fresh = new PagedKernel(1, 4);
        CHECKS.due("new", fresh.step(), -1);
        fresh.load(Asm.NOTHING);
        CHECKS.due("with a program", fresh.step(), -1);
        fresh.boot();
        CHECKS.due("with a boot that was refused", fresh.step(), -1);
    }

    private static void promise5() {
        CHECKS.sentence("5: Makes n steps (1 .. 100). Answers how many");
        Program count = new Program().add(Asm.number(0, 5, 5, 1), Asm.jal(0, -4));
        for (int n : new int[] {1, 2, 3, 50, 99, 100}) {
            PagedKernel kernel = count.booted(12, 4);
            CHECKS.due("run " + n, kernel.run(n), n);
            CHECKS.due("x5 after " + n, kernel.register(1, 5), (n + 1) / 2);
            CHECKS.due("pc after " + n, kernel.pc(1), n % 2 * 4);
            CHECKS.due("turn after " + n, kernel.current(), n % 4 == 0 ? 0 : 1);
        }

        CHECKS.sentence("5: or fewer when there is none");
        Program four = new Program().nothing(3).add(0);
        for (int n : new int[] {3, 4, 5, 100}) {
            PagedKernel kernel = four.booted(12, 3);
            CHECKS.due("run " + n + " of four", kernel.run(n), Math.min(n, 4));
            CHECKS.due("state", kernel.stateOf(1), n < 4 ? 1 : 5);
            CHECKS.due("run for the rest", kernel.run(100), n < 4 ? 1 : 0);
        }
        PagedKernel asleep = new Program().call(Asm.PIPE).call(Asm.READ, 0).booted(12, 2);
        CHECKS.due("the step that falls asleep counts", asleep.run(100), 5);
        CHECKS.due("none is left", asleep.run(1), 0);
        CHECKS.due("not booted", count.loaded(12, 4).run(1), 0);

        CHECKS.sentence("5: -1 when n is not 1 .. 100");
        PagedKernel kernel = count.booted(12, 4);
        PagedKernel ended = four.ran(4, 10);
        for (int n : new int[] {0, 101, -1, -100, 200, LEAST, MOST}) {
            String before = Look.all(kernel);
            CHECKS.due("run " + n, kernel.run(n), -1);
            CHECKS.dueText("no step is made", Look.all(kernel), before);
            CHECKS.due("all ended: run " + n, ended.run(n), -1);
            CHECKS.due("not booted: run " + n, new PagedKernel(1, 1).run(n), -1);
        }
    }

    private static void promise6() {
        CHECKS.sentence("6: The process that has the turn; 0 for none");
        CHECKS.due("a new object", new PagedKernel(12, 4).current(), 0);
        Program child = new Program().nothing(2).add(0);
        PagedKernel kernel = new Program().fork(child).call(Asm.YIELD).call(Asm.PIPE).call(Asm.READ, 0).booted(12, 9);
        CHECKS.due("booted", kernel.current(), 0);
        int[] makers = {1, 1, 1, 1, 1, 2, 2, 2, 2, 1, 1, 1, 1, 1};
        int[] turns = {1, 1, 1, 1, 0, 2, 2, 2, 0, 1, 1, 1, 1, 0};
        for (int i = 0; i < makers.length; i++) {
            CHECKS.due("maker " + i, kernel.step(), makers[i]);
            CHECKS.due("turn " + i, kernel.current(), turns[i]);
        }
        CHECKS.due("asleep", kernel.step(), 0);
        CHECKS.due("nobody has it then", kernel.current(), 0);
    }

    private static PagedKernel eightReady() {
        PagedKernel kernel = eight(4).booted(40, 1);
        CHECKS.until("eight processes", kernel, () -> kernel.stateOf(8) != 0);
        return kernel;
    }

    private static void promise7() {
        CHECKS.sentence("7: Its state; 0 also for numbers that are not 1 .. 8");
        PagedKernel kernel = eightReady();
        for (int p = 1; p <= 8; p++) {
            CHECKS.due("stateOf " + p, kernel.stateOf(p), 1);
        }
        for (int p : NO_PROCESS) {
            CHECKS.due("stateOf " + p, kernel.stateOf(p), 0);
        }
        PagedKernel one = new Program().stay().booted(12, 4);
        for (int p = 2; p <= 8; p++) {
            CHECKS.due("no process " + p, one.stateOf(p), 0);
        }
    }

    private static void promise8() {
        CHECKS.sentence("8: Its exit when it has ended");
        for (int exit : new int[] {0, NONE, 137, LEAST, MOST}) {
            Program program = new Program().call(Asm.EXIT, exit);
            PagedKernel kernel = program.ran(9, program.size());
            CHECKS.due("state", kernel.stateOf(1), 5);
            CHECKS.due("exit " + exit, kernel.exitOf(1), exit);
        }

        CHECKS.sentence("8: else NONE");
        PagedKernel ready = eightReady();
        for (int p = 1; p <= 8; p++) {
            CHECKS.due("of " + p + ", which is ready", ready.exitOf(p), NONE);
        }
        for (int p : NO_PROCESS) {
            CHECKS.due("of " + p, ready.exitOf(p), NONE);
        }
        CHECKS.due("of one that reads", asleep(new Program().call(Asm.PIPE).call(Asm.READ, 0)).exitOf(1), NONE);
        PagedKernel anew = new Program().fork(new Program().call(Asm.EXIT, 9)).call(Asm.WAIT).fork(new Program().stay())
            .stay().booted(12, 9);
        CHECKS.until("2 has ended", anew, () -> anew.stateOf(2) == 5);
        CHECKS.due("its exit", anew.exitOf(2), 9);
        CHECKS.until("2 is gone", anew, () -> anew.stateOf(2) == 0);
        CHECKS.due("no exit", anew.exitOf(2), NONE);
        CHECKS.until("a new 2", anew, () -> anew.stateOf(2) == 1);
        CHECKS.due("has no exit either", anew.exitOf(2), NONE);
    }

    private static void promise9() {
        CHECKS.sentence("9: Its parent; NONE when there is no such process");
        PagedKernel kernel = eightReady();
        CHECKS.due("of 1", kernel.parentOf(1), 0);
        for (int p = 2; p <= 8; p++) {
            CHECKS.due("of " + p + " is there", kernel.parentOf(p) >= 1, true);
        }
        for (int p : NO_PROCESS) {
            CHECKS.due("of " + p, kernel.parentOf(p), NONE);
        }
        CHECKS.due("not booted", new PagedKernel(4, 4).parentOf(1), NONE);
        PagedKernel child = new Program().fork(new Program().call(Asm.EXIT, 9)).call(Asm.WAIT).stay().booted(12, 9);
        CHECKS.due("not yet", child.parentOf(2), NONE);
        CHECKS.until("2 has ended", child, () -> child.stateOf(2) == 5);
        CHECKS.due("it has a parent yet", child.parentOf(2), 1);
        CHECKS.until("2 is gone", child, () -> child.stateOf(2) == 0);
        CHECKS.due("it has none", child.parentOf(2), NONE);
        CHECKS.due("1 ended has 0", new Program().add(0).ran(4, 1).parentOf(1), 0);
    }

    private static void promise10() {
        CHECKS.sentence("10: How many frames are free");
        PagedKernel kernel = new Program().call(Asm.GROW, 1).fork(new Program().add(0)).call(Asm.WAIT).add(0).booted(6, 9);
        CHECKS.due("booted", kernel.freeFrames(), 4);
        kernel.run(3);
        CHECKS.due("grown", kernel.freeFrames(), 3);
        kernel.run(2);
        CHECKS.due("forked", kernel.freeFrames(), 0);
        CHECKS.until("2 has ended", kernel, () -> kernel.stateOf(2) == 5);
        CHECKS.due("its frames are free before it is waited for", kernel.freeFrames(), 3);
        CHECKS.until("1 has ended", kernel, () -> kernel.stateOf(1) == 5);
        CHECKS.due("all are free", kernel.freeFrames(), 6);
    }

    private static void promise11() {
        CHECKS.sentence("11: How many pages it has (0 when it has ended or there is none)");
        PagedKernel kernel = new Program().call(Asm.GROW, 6).add(0).booted(12, 9);
        CHECKS.due("at least two", kernel.pages(1), 2);
        kernel.run(3);
        CHECKS.due("at most eight", kernel.pages(1), 8);
        kernel.step();
        CHECKS.due("has ended", kernel.stateOf(1), 5);
        CHECKS.due("none then", kernel.pages(1), 0);
        PagedKernel ready = eightReady();
        for (int p : NO_PROCESS) {
            CHECKS.due("of " + p, ready.pages(p), 0);
        }
        CHECKS.due("of 8", ready.pages(8), 2);
        CHECKS.due("not booted", new PagedKernel(4, 4).pages(1), 0);
    }

    private static void promise12() {
        CHECKS.sentence("12: Its register k (0 when there is no such process or register)");
        Program program = new Program();
        for (int k = 1; k < 32; k++) {
            program.set(k, -1000 - k);
        }
        PagedKernel kernel = program.ran(9, 31);
        CHECKS.due("x0", kernel.register(1, 0), 0);
        for (int k = 1; k < 32; k++) {
            CHECKS.due("x" + k, kernel.register(1, k), -1000 - k);
        }
        for (int k : new int[] {-1, 32, 33, 63, 64, -31, LEAST, LEAST + 5, MOST}) {
            CHECKS.due("x" + k, kernel.register(1, k), 0);
        }
        for (int p : NO_PROCESS) {
            CHECKS.due("of " + p, kernel.register(p, 5), 0);
        }
        CHECKS.due("of 2, which is not there", kernel.register(2, 5), 0);
        PagedKernel gone = new Program().set(6, 66).fork(new Program().stay()).add(0).booted(12, 9);
        CHECKS.until("1 has ended", gone, () -> gone.stateOf(1) == 5);
        CHECKS.due("there is such a process yet", gone.register(1, 6), 66);
        CHECKS.due("of 2", gone.register(2, 6), 66);
        PagedKernel waited = new Program().set(6, 66).fork(new Program().add(0)).call(Asm.WAIT).stay().booted(12, 9);
        CHECKS.until("2 is forked", waited, () -> waited.stateOf(2) == 1);
        CHECKS.until("2 is gone", waited, () -> waited.stateOf(2) == 0);
        CHECKS.due("of one that is gone", waited.register(2, 6), 0);
    }

    private static void promise13() {
        CHECKS.sentence("13: Its PC; 0 when there is no such process");
        PagedKernel kernel = new Program().nothing(2).add(Asm.jal(0, -1048576)).booted(12, 9);
        int[] pcs = {4, 8, 8 - 1048576};
        CHECKS.due("at first", kernel.pc(1), 0);
        for (int i = 0; i < pcs.length; i++) {
            kernel.step();
            CHECKS.due("after step " + i, kernel.pc(1), pcs[i]);
        }
        PagedKernel ready = eightReady();
        for (int p : NO_PROCESS) {
            CHECKS.due("of " + p, ready.pc(p), 0);
        }
        CHECKS.due("of 8", ready.pc(8), 8);
        PagedKernel waited = new Program().fork(new Program().add(0)).call(Asm.WAIT).stay().booted(12, 9);
        CHECKS.until("2 has ended", waited, () -> waited.stateOf(2) == 5);
        CHECKS.due("it has its PC yet", waited.pc(2), 12);
        CHECKS.until("2 is gone", waited, () -> waited.stateOf(2) == 0);
        CHECKS.due("of one that is gone", waited.pc(2), 0);
    }

    private static void promise14() {
        CHECKS.sentence("14: The word at an address of its pages");
        Program program = new Program().call(Asm.GROW, 6).set(6, -77)
            .add(Asm.put(2, 6, 0, 60), Asm.put(2, 6, 0, 64), Asm.put(2, 6, 0, 508));
        PagedKernel kernel = program.ran(9, program.size());
        int[] there = {0, 60, 64, 508, 68, 504};
        int[] words = {Asm.number(0, 10, 0, 6), -77, -77, -77, 0, 0};
        for (int i = 0; i < there.length; i++) {
            CHECKS.due("at " + there[i], kernel.word(1, there[i]), words[i]);
        }

        CHECKS.sentence("14: 0 when the address is not there");
        for (int address : new int[] {512, 516, 1024, -4, -64, -512, 0x10000, LEAST, LEAST + 60, MOST - 3, -452}) {
            CHECKS.due("at " + address, kernel.word(1, address), 0);
        }
        CHECKS.due("of no process", kernel.word(2, 0), 0);
        for (int p : NO_PROCESS) {
            CHECKS.due("of " + p, kernel.word(p, 0), 0);
        }
        PagedKernel small = new Program().set(6, -77).add(Asm.put(2, 6, 0, 124), Asm.NOTHING, 0).booted(12, 9);
        small.run(2);
        CHECKS.due("the last word", small.word(1, 124), -77);
        CHECKS.due("the one behind it", small.word(1, 128), 0);
        small.run(2);
        CHECKS.due("it has ended", small.stateOf(1), 5);
        CHECKS.due("and has no pages", small.word(1, 124), 0);
        CHECKS.due("at 0 either", small.word(1, 0), 0);

        CHECKS.sentence("14: 0 when the address is .. no multiple of 4");
        for (int address : new int[] {1, 2, 3, 61, 62, 63, 65, 66, 67, 509, 510, 511, -1, -2, -3, MOST, LEAST + 1}) {
            CHECKS.due("at " + address, kernel.word(1, address), 0);
        }
    }

    private static void promise15() {
        CHECKS.sentence("15: NONE for nothing (or no such process or descriptor)");
        Program program = new Program().call(Asm.PIPE).call(Asm.DUP, 1).call(Asm.DUP, 1);
        PagedKernel kernel = program.ran(9, program.size());
        CHECKS.due("nothing", kernel.descriptor(1, 5), NONE);
        for (int d : new int[] {-1, 6, 7, 31, 32, -6, LEAST, LEAST + 1, MOST}) {
            CHECKS.due("no descriptor " + d, kernel.descriptor(1, d), NONE);
        }
        for (int p : NO_PROCESS) {
            CHECKS.due("of " + p, kernel.descriptor(p, 1), NONE);
        }
        CHECKS.due("of 2, which is not there", kernel.descriptor(2, 1), NONE);

        CHECKS.sentence("15: 0 the console, 1 + 2 * p the reading end of pipe p, 2 + 2 * p its writing end");
        int[] ends = {1, 0, 2, 0, 0};
        for (int d = 0; d < 5; d++) {
            CHECKS.due("descriptor " + d, kernel.descriptor(1, d), ends[d]);
        }
        for (int p = 0; p < 4; p++) {
            PagedKernel last = lastPipe(p);
            CHECKS.due("reading end of " + p, last.descriptor(1, 0), 1 + 2 * p);
            CHECKS.due("writing end of " + p, last.descriptor(1, 1), 2 + 2 * p);
        }
    }

    /** Pipes below p are held by their writing ends; p has its ends at 0 and 1, with two bytes in it. */
    private static PagedKernel lastPipe(int p) {
        Program program = new Program().call(Asm.CLOSE, 1);
        for (int i = 0; i < p; i++) {
            // The writing end moves up by a dup, so that 0 and 1 are nothing again.
            program.call(Asm.PIPE).call(Asm.DUP, 1).call(Asm.CLOSE, 0).call(Asm.CLOSE, 1);
        }
        program.call(Asm.PIPE).call(Asm.WRITE, 1).call(Asm.WRITE, 1);
        return program.ran(9, program.size());
    }

    private static void promise16() {
        CHECKS.sentence("16: How many bytes a pipe holds");
        for (int p = 0; p < 4; p++) {
            PagedKernel kernel = lastPipe(p);
            for (int other = 0; other < 4; other++) {
                CHECKS.due("held by " + other, kernel.held(other), other == p ? 2 : 0);
            }
        }
        PagedKernel full = asleep(new Program().call(Asm.PIPE).set(17, Asm.WRITE).set(10, 2).add(Asm.CALL, Asm.jal(0, -8)));
        CHECKS.due("at most eight", full.held(0), 8);

        CHECKS.sentence("16: 0 when there is none");
        for (int p : new int[] {-1, 4, 5, 8, -4, LEAST, LEAST + 1, MOST}) {
            CHECKS.due("held by " + p, lastPipe(3).held(p), 0);
            CHECKS.due("held by " + p + " when 0 is full", full.held(p), 0);
        }
        CHECKS.due("not booted", new PagedKernel(4, 4).held(0), 0);
    }

    private static void promise17And18() {
        PagedKernel kernel = new Program().set(17, Asm.WRITE).set(10, 1).add(Asm.CALL, Asm.number(0, 11, 11, 1), Asm.jal(0, -12))
            .booted(12, 9);
        int[] lengths = {0, 1, 2, 199, 200};
        for (int length : lengths) {
            CHECKS.sentence("17: How many bytes are on the console");
            CHECKS.until("so many", kernel, () -> kernel.consoleLength() >= length);
            CHECKS.due("length", kernel.consoleLength(), length);

            CHECKS.sentence("18: Byte i of the console; NONE when there is none");
            for (int i : new int[] {-1, length, length + 1, 200, 201, LEAST, MOST}) {
                CHECKS.due("byte " + i + " of " + length, kernel.console(i), NONE);
            }
            for (int i = 0; i < length; i++) {
                CHECKS.due("byte " + i + " of " + length, kernel.console(i), i);
            }
        }
        kernel.run(100);
        CHECKS.due("it stays at 200", kernel.consoleLength(), 200);
        CHECKS.due("new object", new PagedKernel(1, 1).consoleLength(), 0);
    }

    private static void promise19() {
        CHECKS.sentence("19: The process at place i, from 0, of the row; 0 when there is none");
        PagedKernel kernel = eightReady();
        CHECKS.due("nobody has the turn", kernel.current(), 0);
        boolean[] seen = new boolean[9];
        for (int i = 0; i < 8; i++) {
            seen[kernel.waitingTurn(i)] = true;
        }
        for (int p = 1; p <= 8; p++) {
            CHECKS.due(p + " is in the row", seen[p], true);
        }
        for (int i : new int[] {-1, 8, 9, -8, LEAST, MOST}) {
            CHECKS.due("place " + i, kernel.waitingTurn(i), 0);
        }
        int first = kernel.waitingTurn(0);
        CHECKS.due("the first makes the step", kernel.step(), first);
        CHECKS.due("and goes to the end", kernel.waitingTurn(7), first);
        PagedKernel turn = eight(4).booted(40, 9);
        CHECKS.until("eight processes", turn, () -> turn.stateOf(8) != 0 && turn.current() != 0);
        CHECKS.due("the last place is there", turn.waitingTurn(6) != 0, true);
        CHECKS.due("one has the turn and is not in the row", turn.waitingTurn(7), 0);
        CHECKS.due("not booted", new PagedKernel(4, 4).waitingTurn(0), 0);
    }

    private static void calls512() {
        CHECKS.sentence("An object is used for at most 512 calls after it has been made");
        PagedKernel kernel = new Program().add(Asm.number(0, 5, 5, 1), Asm.jal(0, -4)).booted(2, 4);
        for (int i = 0; i < 508; i++) {
            CHECKS.due("call " + (i + 4), kernel.run(100), 100);
        }
        CHECKS.due("call 512", kernel.register(1, 5), 25400);
        kernel.run(100);
        kernel.step();
        CHECKS.due("what comes later is free, but ends", kernel.stateOf(1) >= 0, true);
    }
}
