/** The terms MEMORY and PROCESSES (with pipes and states): each sentence that names an edge, by itself. */
public final class MemoryEdgeTest {
    private static final Checks CHECKS = new Checks("edges of memory and processes");
    private static final int NONE = PagedKernel.NONE;

    public static void main(String[] args) {
        sixteenWords();
        eightPages();
        bytesOfPages();
        lowestByteFirst();
        othersAreNotThere();
        framesOfTheirOwn();
        leastFrames();
        gotFramesAreZero();
        copiedFrames();
        leastNumber();
        registerZero();
        parents();
        sixDescriptors();
        eightBytes();
        freePipes();
        freePipesHoldNothing();
        states();
        CHECKS.finish();
    }

    private static void sixteenWords() {
        CHECKS.sentence("FRAMES 0, 1, .. of 16 words each");
        PagedKernel kernel = new Program().nothing(15).add(99).booted(2, 4);
        CHECKS.due("16 words take one frame, and there is one more", kernel.freeFrames(), 0);
        CHECKS.due("the 16th", kernel.word(1, 60), 99);
        CHECKS.due("17 take one more", new Program().nothing(17).booted(3, 4).freeFrames(), 0);
    }

    /** Grows to eight pages and puts marks at both ends of all but page 0, where the program is. */
    private static Program marked() {
        return new Program().call(Asm.GROW, 6).part(marks(2, 1));
    }

    /** Eight words: puts mark, mark + 1, .. at the first and at the last byte of the pages from .. 7. */
    private static Program marks(int mark, int from) {
        return new Program().set(6, mark).set(7, 512).set(8, 64 * from).add(Asm.put(0, 6, 8, 0), Asm.put(0, 6, 8, 63),
            Asm.number(0, 6, 6, 1), Asm.number(0, 8, 8, 64), Asm.branch(4, 8, 7, -16));
    }

    private static void dueMarks(PagedKernel kernel, int p, int mark, int from) {
        for (int page = from; page < 8; page++) {
            int m = mark + page - from;
            CHECKS.due("first word of page " + page, kernel.word(p, 64 * page), m);
            CHECKS.due("last word of page " + page, kernel.word(p, 64 * page + 60), m << 24);
            for (int address = 64 * page + 4; address < 64 * page + 60; address += 4) {
                CHECKS.due("word between " + address, kernel.word(p, address), 0);
            }
        }
    }

    private static void eightPages() {
        CHECKS.sentence("A process has PAGES 0 .. n - 1 (n at most 8)");
        PagedKernel kernel = marked().call(Asm.GROW, 1).stay().booted(40, 9);
        kernel.run(3);
        CHECKS.due("eight", kernel.pages(1), 8);
        kernel.run(3 + 5 * 7 + 3);
        CHECKS.due("no ninth", kernel.register(1, 10), -1);
        CHECKS.due("eight yet", kernel.pages(1), 8);
        CHECKS.due("no frame is got", kernel.freeFrames(), 32);
    }

    private static void bytesOfPages() {
        CHECKS.sentence("byte addresses 64 * p .. 64 * p + 63 are those of page p");
        PagedKernel kernel = marked().stay().ran(9, 60);
        dueMarks(kernel, 1, 2, 1);
        for (int page = 0; page < 8; page++) {
            int last = 64 * page + 63;
            Program read = new Program().call(Asm.GROW, 6).add(Asm.read(4, 7, 0, last), Asm.read(4, 8, 0, last - 63));
            PagedKernel both = read.ran(9, read.size());
            CHECKS.due("both ends of page " + page + " are there", both.stateOf(1), 1);
        }
    }

    private static void lowestByteFirst() {
        CHECKS.sentence("the lowest byte of a word having the lowest address");
        Program program = new Program().set(6, 0x44332211).add(Asm.put(2, 6, 0, 64));
        int[] bytes = {0x11, 0x22, 0x33, 0x44};
        for (int i = 0; i < 4; i++) {
            program.add(Asm.read(4, 20 + i, 0, 64 + i), Asm.put(0, 6, 0, 71 - i));
        }
        program.add(Asm.read(5, 24, 0, 64), Asm.read(5, 25, 0, 66), Asm.put(0, 0, 0, 69));
        PagedKernel kernel = program.ran(9, program.size());
        for (int i = 0; i < 4; i++) {
            CHECKS.due("byte " + i, kernel.register(1, 20 + i), bytes[i]);
        }
        CHECKS.due("lower half", kernel.register(1, 24), 0x2211);
        CHECKS.due("upper half", kernel.register(1, 25), 0x4433);
        CHECKS.due("put bytes", kernel.word(1, 68), 0x11110011);
    }

    private static void othersAreNotThere() {
        CHECKS.sentence("all others are not there");
        int[] outside = {128, 191, 512, -1, -128, 0x7FFFFFFF, 0x80000000, 0x10000, -0x10000 + 64};
        for (int address : outside) {
            Program read = new Program().set(8, address).add(Asm.read(4, 7, 8, 0));
            CHECKS.due("read " + address, read.ran(9, read.size()).exitOf(1), 133);
            Program put = new Program().set(8, address).add(Asm.put(0, 7, 8, 0));
            CHECKS.due("put " + address, put.ran(9, put.size()).exitOf(1), 135);
            CHECKS.due("word " + address, new Program().stay().booted(4, 4).word(1, address & ~3), 0);
        }
        for (int address : new int[] {128, 512, -4, -128, 0x7FFFFFFC, 0x80000000}) {
            Program go = new Program().set(8, address).add(Asm.jalr(0, 8, 0));
            CHECKS.due("go to " + address, go.ran(9, go.size() + 1).exitOf(1), 129);
        }
        Program grown = new Program().call(Asm.GROW, 1).add(Asm.put(0, 7, 0, 191), Asm.put(0, 7, 0, 192));
        PagedKernel kernel = grown.booted(4, 9);
        kernel.run(4);
        CHECKS.due("191 is there when it has grown", kernel.stateOf(1), 1);
        kernel.step();
        CHECKS.due("192 is not", kernel.exitOf(1), 135);
    }

    private static void framesOfTheirOwn() {
        CHECKS.sentence("each of which lies in a frame of its own");
        Program program = new Program().call(Asm.GROW, 5).fork(marks(20, 2).stay()).part(marks(30, 2)).stay();
        PagedKernel kernel = program.ran(9, 200);
        CHECKS.due("two processes of eight pages", kernel.freeFrames(), 24);
        dueMarks(kernel, 1, 30, 2);
        dueMarks(kernel, 2, 20, 2);
        dueSameProgram(kernel, program, 1, 2);
    }

    private static void dueSameProgram(PagedKernel kernel, Program program, int p, int q) {
        PagedKernel fresh = program.booted(40, 4);
        for (int address = 0; address < program.here(); address += 4) {
            CHECKS.due("program of " + p + " at " + address, kernel.word(p, address), fresh.word(1, address));
            CHECKS.due("program of " + q + " at " + address, kernel.word(q, address), fresh.word(1, address));
        }
    }

    /**
     * In which frame a page lies cannot be seen, but that pages which lie apart are kept apart can:
     * 2 lies between 1 and 3 and ends; then 1, 3 and 1 again grow into what it leaves and beyond.
     */
    private static void leastFrames() {
        CHECKS.sentence("What gets a frame gets the least one that is free (several pages get theirs in their order)");
        Program third = new Program().delay(30).call(Asm.GROW, 4).part(marks(60, 3)).stay();
        Program program = new Program().fork(new Program().call(Asm.EXIT, 0)).fork(third).call(Asm.WAIT).call(Asm.GROW, 2);
        program.delay(60).call(Asm.GROW, 2).part(marks(90, 3)).stay();
        PagedKernel kernel = program.booted(16, 9);
        CHECKS.due("four pages at first", kernel.pages(1), 4);
        CHECKS.until("1 grows", kernel, () -> kernel.pages(1) == 6);
        CHECKS.due("into the frames of 2", kernel.freeFrames(), 16 - 6 - 4);
        CHECKS.due("3 has not grown yet", kernel.pages(3), 4);
        CHECKS.until("3 grows", kernel, () -> kernel.pages(3) == 8);
        CHECKS.due("1 has not grown again", kernel.pages(1), 6);
        CHECKS.until("1 grows again", kernel, () -> kernel.pages(1) == 8);
        CHECKS.due("no frame is left", kernel.freeFrames(), 0);
        kernel.run(100);
        kernel.run(100);
        dueMarks(kernel, 1, 90, 3);
        dueMarks(kernel, 3, 60, 3);
        dueSameProgram(kernel, program, 1, 3);
    }

    /** Five words: puts -1 at all words from a place to x2, which is the end of the pages. */
    private static Program filled(int from) {
        return new Program().set(6, -1).set(8, from).add(Asm.put(2, 6, 8, 0), Asm.number(0, 8, 8, 4), Asm.branch(6, 8, 2, -8));
    }

    private static void gotFramesAreZero() {
        CHECKS.sentence("a frame that is got is all 0 unless something is said to be copied");
        Program child = filled(60).part(new Program().add(0));
        PagedKernel kernel = new Program().fork(child).call(Asm.WAIT).call(Asm.GROW, 2).stay().booted(4, 9);
        CHECKS.until("2 fills its pages", kernel, () -> kernel.word(2, 124) == -1);
        CHECKS.until("1 gets them", kernel, () -> kernel.pages(1) == 4);
        for (int address = 64; address < 256; address += 4) {
            CHECKS.due("word " + address, kernel.word(1, address), 0);
        }
        PagedKernel booted = new Program().stay().booted(2, 9);
        for (int address = 4; address < 128; address += 4) {
            CHECKS.due("word behind the program " + address, booted.word(1, address), 0);
        }
    }

    private static void copiedFrames() {
        CHECKS.sentence("a frame that is got is all 0 unless something is said to be copied: by FORK");
        Program child = filled(60).part(new Program().add(0));
        Program program = new Program().fork(child).set(6, 777).add(Asm.put(2, 6, 0, 100)).call(Asm.WAIT).call(Asm.FORK).stay();
        PagedKernel kernel = program.booted(4, 9);
        CHECKS.until("2 fills its pages", kernel, () -> kernel.word(2, 124) == -1);
        CHECKS.until("2 is gone", kernel, () -> kernel.stateOf(2) == 0);
        CHECKS.until("a new 2 has them", kernel, () -> kernel.stateOf(2) == 1);
        for (int address = 0; address < 128; address += 4) {
            CHECKS.due("word " + address, kernel.word(2, address), kernel.word(1, address));
        }
        CHECKS.due("what 1 had put there", kernel.word(2, 100), 777);
        CHECKS.due("and the last word is 0", kernel.word(2, 124), 0);
    }

    private static void leastNumber() {
        CHECKS.sentence("PROCESSES have numbers 1 .. 8; a new one gets the least that is free");
        Program stay = new Program().stay();
        Program program = new Program().fork(stay).keep(20).fork(new Program().add(0)).keep(21).fork(stay).keep(22);
        program.call(Asm.WAIT).keep(23).fork(stay).keep(24).fork(stay).keep(25).stay();
        PagedKernel kernel = program.ran(3, 200);
        int[] numbers = {2, 3, 4, 3, 3, 5};
        for (int i = 0; i < numbers.length; i++) {
            CHECKS.due("number " + i, kernel.register(1, 20 + i), numbers[i]);
        }
        PagedKernel full = new Program().set(17, Asm.FORK).add(Asm.CALL, Asm.branch(4, 0, 10, -4)).stay().ran(9, 100);
        CHECKS.due("8 is there", full.stateOf(8), 1);
        CHECKS.due("there is no 9", full.freeFrames(), 40 - 16);
        PagedKernel first = new Program().fork(new Program().delay(9).call(Asm.FORK).keep(20).stay()).add(0).ran(9, 100);
        CHECKS.due("1 has ended", first.stateOf(1), 5);
        CHECKS.due("but its number is not free", first.register(2, 20), 3);
    }

    private static void registerZero() {
        CHECKS.sentence("x0 is always 0, whatever is written to it");
        int[] words = {Asm.upper(55, 0, 0xFFFFF000), Asm.upper(23, 0, 0x1000), Asm.jal(0, 4), Asm.jalr(0, 0, 16),
            Asm.read(2, 0, 0, 0), Asm.read(4, 0, 0, 0), Asm.number(0, 0, 0, 77), Asm.number(6, 0, 2, 1),
            Asm.shift(1, 0, 0, 2, 1), Asm.registers(0, 0, 0, 2, 2), Asm.registers(0, 32, 0, 0, 2)};
        PagedKernel kernel = new Program().add(words).booted(4, 9);
        for (int i = 0; i < words.length; i++) {
            kernel.step();
            CHECKS.due("pc after " + i, kernel.pc(1), 4 * i + 4);
            CHECKS.due("x0 after " + i, kernel.register(1, 0), 0);
        }
        PagedKernel read = new Program().set(0, 5).add(Asm.registers(0, 0, 6, 0, 0), Asm.branch(0, 0, 6, 12)).ran(9, 3);
        CHECKS.due("it is read as 0", read.register(1, 6), 0);
        CHECKS.due("and held as 0", read.pc(1), 20);
    }

    private static void parents() {
        CHECKS.sentence("a PARENT (0 for none)");
        PagedKernel kernel = new Program().fork(new Program().fork(new Program().stay()).stay()).stay().ran(9, 40);
        int[] parents = {0, 1, 2};
        for (int p = 1; p <= 3; p++) {
            CHECKS.due("of " + p, kernel.parentOf(p), parents[p - 1]);
        }
    }

    private static void sixDescriptors() {
        CHECKS.sentence("DESCRIPTORS 0 .. 5, each of which is nothing, the CONSOLE, or the READING END or the WRITING END");
        Program program = new Program().set(17, Asm.DUP).set(10, 1).add(Asm.CALL, Asm.branch(5, 10, 0, -8)).stay();
        PagedKernel kernel = program.booted(4, 9);
        int[] got = {0, 2, 3, 4, 5, -1};
        kernel.run(3);
        for (int i = 0; i < got.length; i++) {
            CHECKS.due("dup " + i, kernel.register(1, 10), got[i]);
            kernel.run(3);
        }
        for (int d = 0; d < 6; d++) {
            CHECKS.due("descriptor " + d, kernel.descriptor(1, d), 0);
        }
        CHECKS.due("no descriptor 6", kernel.descriptor(1, 6), NONE);
    }

    private static void eightBytes() {
        CHECKS.sentence("A pipe holds at most 8 bytes");
        PagedKernel kernel = new Program().call(Asm.PIPE).set(17, Asm.WRITE).set(10, 2)
            .add(Asm.CALL, Asm.number(0, 11, 11, 1), Asm.jal(0, -12))
            .booted(4, 9);
        CHECKS.until("it fills", kernel, () -> kernel.held(0) == 8);
        CHECKS.due("the eighth goes in at once", kernel.stateOf(1), 1);
        CHECKS.until("a ninth must wait", kernel, () -> kernel.stateOf(1) == 3);
        CHECKS.due("it is not in", kernel.held(0), 8);
        CHECKS.due("eight were written", kernel.register(1, 11), 2 + 8);
    }

    /** Does something with the pipe 0, whose ends are at 0 and 2, then opens another, at the end of all. */
    private static PagedKernel opensAfter(Program part) {
        Program program = new Program().call(Asm.PIPE).part(part).call(Asm.PIPE).keep(20).stay();
        PagedKernel kernel = program.booted(40, 9);
        CHECKS.until("it has opened another", kernel, () -> kernel.pc(1) == program.here() - 4);
        return kernel;
    }

    private static int opened(PagedKernel kernel) {
        return (kernel.descriptor(1, kernel.register(1, 20)) - 1) / 2;
    }

    private static void freePipes() {
        CHECKS.sentence("it is FREE when no process has an end of it");
        CHECKS.due("both ends are there", opened(opensAfter(new Program())), 1);
        CHECKS.due("the reading end is there", opened(opensAfter(new Program().call(Asm.CLOSE, 2))), 1);
        CHECKS.due("the writing end is there", opened(opensAfter(new Program().call(Asm.CLOSE, 0))), 1);
        Program both = new Program().call(Asm.CLOSE, 0).call(Asm.CLOSE, 2);
        CHECKS.due("none is there", opened(opensAfter(both)), 0);
        CHECKS.due("a dup is there", opened(opensAfter(new Program().call(Asm.DUP, 0).part(both))), 1);
        CHECKS.due("another dup is there", opened(opensAfter(new Program().call(Asm.DUP, 2).part(both))), 1);
        CHECKS.due("a copy has both", opened(opensAfter(new Program().fork(new Program().stay()).part(both))), 1);
        Program keepsOne = new Program().call(Asm.CLOSE, 0).stay();
        CHECKS.due("a copy has one", opened(opensAfter(new Program().fork(keepsOne).part(both).delay(30))), 1);
        Program closes = new Program().part(both).stay();
        CHECKS.due("a copy has none", opened(opensAfter(new Program().fork(closes).part(both).delay(30))), 0);
        Program ends = new Program().add(0);
        CHECKS.due("a copy has ended", opened(opensAfter(new Program().fork(ends).part(both).delay(30))), 0);
    }

    private static void freePipesHoldNothing() {
        CHECKS.sentence("it is FREE .. and holds nothing then");
        Program twice = new Program().call(Asm.WRITE, 2, 7).call(Asm.WRITE, 2, 8);
        Program program = new Program().call(Asm.PIPE).part(twice).call(Asm.CLOSE, 2).call(Asm.CLOSE, 0).call(Asm.PIPE)
            .call(Asm.READ, 0);
        PagedKernel kernel = program.booted(8, 9);
        kernel.run(10);
        CHECKS.due("two bytes", kernel.held(0), 2);
        kernel.run(3);
        CHECKS.due("two yet, for the reading end", kernel.held(0), 2);
        kernel.run(3);
        CHECKS.due("none when it is free", kernel.held(0), 0);
        kernel.run(2);
        CHECKS.due("the same pipe again", kernel.descriptor(1, 0), 1);
        CHECKS.due("holds nothing", kernel.held(0), 0);
        kernel.run(3);
        CHECKS.due("so that there is nothing to read", kernel.stateOf(1), 2);
        PagedKernel ended = new Program().call(Asm.PIPE).part(twice).add(0).booted(8, 9);
        ended.run(10);
        CHECKS.due("two bytes of one that lives", ended.held(0), 2);
        ended.step();
        CHECKS.due("none when it has ended", ended.held(0), 0);
        Program forked = new Program().call(Asm.PIPE).part(twice).fork(new Program().call(Asm.PIPE).call(Asm.READ, 3).stay())
            .add(0);
        PagedKernel copy = forked.ran(9, 60);
        CHECKS.due("1 has ended", copy.stateOf(1), 5);
        CHECKS.due("two yet, for the copy", copy.held(0), 2);
    }

    private static void states() {
        CHECKS.sentence("STATES: 0 no such process, 1 READY, 2 READING, 3 WRITING, 4 WAITING, 5 ENDED");
        Program writer = new Program().set(17, Asm.WRITE).set(10, 2).add(Asm.CALL, Asm.jal(0, -8));
        Program reader = new Program().call(Asm.PIPE).call(Asm.READ, 3).stay();
        Program waiter = new Program().fork(new Program().stay()).call(Asm.WAIT).stay();
        PagedKernel kernel = new Program().call(Asm.PIPE).fork(writer).fork(reader).fork(waiter).fork(new Program().add(0)).stay()
            .ran(9, 300);
        int[] want = {1, 3, 2, 4};
        for (int p = 1; p <= 4; p++) {
            CHECKS.due("state of " + p, kernel.stateOf(p), want[p - 1]);
        }
        int ended = kernel.stateOf(5) == 5 ? 5 : 6;
        CHECKS.due("the one that ended", kernel.stateOf(ended), 5);
        CHECKS.due("the child of 4", kernel.stateOf(11 - ended), 1);
        CHECKS.due("no such process", kernel.stateOf(7), 0);
    }
}
