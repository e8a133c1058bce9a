/** Promises 15 to 18 and the calls 6 to 10: console, pipes and descriptors. */
public final class PipeTest {
    private static final Checks CHECKS = new Checks("pipes");

    public static void main(String[] args) {
        consoleBytes();
        consoleFull();
        wrongWrites();
        wrongReads();
        inOrder();
        openPipes();
        fewDescriptors();
        close();
        dup();
        writeWithoutReader();
        readWithoutWriter();
        bytesStayForReader();
        freePipeIsEmpty();
        fullPipe();
        writerWokenByClose();
        readerWokenByClose();
        everyPipe();
        CHECKS.finish();
    }

    private static void consoleBytes() {
        int[] given = {65, 0, 255, 256, -1, -128, 0x12345680};
        int[] want = {65, 0, 255, 0, 255, 128, 128};
        for (int i = 0; i < given.length; i++) {
            Program program = new Program().call(Asm.WRITE, 1, given[i]);
            PagedKernel kernel = program.ran(9, program.size());
            CHECKS.due("answer", kernel.register(1, 10), want[i]);
            CHECKS.due("x11 stays", kernel.register(1, 11), given[i]);
            CHECKS.due("length", kernel.consoleLength(), 1);
            CHECKS.due("byte", kernel.console(0), want[i]);
            CHECKS.due("none behind it", kernel.console(1), PagedKernel.NONE);
            CHECKS.due("none before it", kernel.console(-1), PagedKernel.NONE);
        }
        PagedKernel two = new Program().call(Asm.WRITE, 1, 'a').call(Asm.WRITE, 1, 'b').ran(9, 8);
        CHECKS.dueConsole("in order", two, "ab");
    }

    private static void consoleFull() {
        Program program = new Program().set(17, Asm.WRITE).set(11, 0);
        int again = program.here();
        program.set(10, 1).add(Asm.CALL, Asm.branch(4, 10, 0, 12), Asm.number(0, 11, 11, 1));
        program.add(Asm.jal(0, again - program.here())).keep(20).stay();
        PagedKernel kernel = program.ran(9, 2 + 200 * 5 - 10);
        CHECKS.due("not yet full", kernel.consoleLength() < 200, true);
        for (int i = 0; i < 100 && kernel.register(1, 20) == 0; i++) {
            kernel.step();
        }
        CHECKS.due("full", kernel.consoleLength(), 200);
        CHECKS.due("the answer is -1", kernel.register(1, 20), -1);
        CHECKS.due("at the 201st", kernel.register(1, 11), 200);
        for (int i = 0; i < 200; i++) {
            CHECKS.due("byte " + i, kernel.console(i), i);
        }
        CHECKS.due("byte 200", kernel.console(200), PagedKernel.NONE);
        CHECKS.due("byte most", kernel.console(Integer.MAX_VALUE), PagedKernel.NONE);
        CHECKS.due("byte least", kernel.console(Integer.MIN_VALUE), PagedKernel.NONE);
    }

    private static void wrongWrites() {
        int[] wrong = {0, 2, 5, 6, -1, 7, 100, Integer.MIN_VALUE, Integer.MAX_VALUE};
        for (int d : wrong) {
            Program program = new Program().call(Asm.WRITE, d, 65);
            PagedKernel kernel = program.ran(9, program.size());
            CHECKS.due("write to " + d, kernel.register(1, 10), -1);
            CHECKS.due("ready", kernel.stateOf(1), 1);
            CHECKS.due("console", kernel.consoleLength(), 0);
        }
        PagedKernel end = new Program().call(Asm.PIPE).call(Asm.WRITE, 0, 65).ran(9, 6);
        CHECKS.due("write to a reading end", end.register(1, 10), -1);
        CHECKS.due("it is not in the pipe", end.held(0), 0);
    }

    private static void wrongReads() {
        int[] wrong = {0, 1, 2, 5, 6, -1, 100, Integer.MIN_VALUE, Integer.MAX_VALUE};
        for (int d : wrong) {
            Program program = new Program().call(Asm.WRITE, 1, 65).call(Asm.READ, d);
            PagedKernel kernel = program.ran(9, program.size());
            CHECKS.due("read from " + d, kernel.register(1, 10), -1);
            CHECKS.due("ready", kernel.stateOf(1), 1);
        }
        PagedKernel end = new Program().call(Asm.PIPE).call(Asm.WRITE, 2, 65).call(Asm.READ, 2).ran(9, 9);
        CHECKS.due("read from a writing end", end.register(1, 10), -1);
        CHECKS.due("the byte stays", end.held(0), 1);
    }

    /** More bytes than a pipe holds go through it, some of them held, and come out as they went in. */
    private static void inOrder() {
        Program program = new Program().call(Asm.PIPE);
        program.call(Asm.WRITE, 2, 250).call(Asm.WRITE, 2, 251).set(5, 0);
        int again = program.here();
        program.set(10, 2).add(Asm.number(0, 11, 5, 252)).set(17, Asm.WRITE).add(Asm.CALL);
        program.set(10, 0).set(17, Asm.READ).add(Asm.CALL);
        program.add(Asm.number(0, 11, 10, 0)).call(Asm.WRITE, 1).add(Asm.number(0, 5, 5, 1));
        program.add(Asm.jal(0, again - program.here()));
        PagedKernel kernel = program.ran(9, 11 + 30 * 13);
        CHECKS.due("held", kernel.held(0), 2);
        CHECKS.due("length", kernel.consoleLength(), 30);
        for (int i = 0; i < 30; i++) {
            CHECKS.due("byte " + i, kernel.console(i), 250 + i & 255);
        }
    }

    private static void openPipes() {
        PagedKernel kernel = new Program().call(Asm.PIPE).keep(20).add(Asm.number(0, 21, 11, 0)).call(Asm.PIPE).stay().ran(9, 6);
        CHECKS.due("first reading end", kernel.register(1, 20), 0);
        CHECKS.due("first writing end", kernel.register(1, 21), 2);
        CHECKS.due("second reading end", kernel.register(1, 10), 3);
        CHECKS.due("second writing end", kernel.register(1, 11), 4);
        int[] want = {1, 0, 2, 3, 4, -1};
        for (int d = 0; d < 6; d++) {
            CHECKS.due("descriptor " + d, kernel.descriptor(1, d), want[d]);
        }
        Program four = new Program();
        for (int i = 0; i < 4; i++) {
            four.call(Asm.PIPE).call(Asm.CLOSE, 2);
        }
        four.set(11, 88).call(Asm.CLOSE, 1).call(Asm.PIPE).stay();
        kernel = four.ran(9, four.size());
        int[] ends = {1, -1, -1, 4, 6, 8};
        for (int d = 0; d < 6; d++) {
            CHECKS.due("one end of each pipe " + d, kernel.descriptor(1, d), ends[d]);
        }
        CHECKS.due("no pipe is free", kernel.register(1, 10), -1);
        CHECKS.due("x11 stays", kernel.register(1, 11), 88);
    }

    private static void fewDescriptors() {
        Program program = new Program().call(Asm.PIPE).call(Asm.PIPE).set(11, 44).call(Asm.PIPE);
        PagedKernel one = program.ran(9, program.size());
        CHECKS.due("one descriptor", one.register(1, 10), -1);
        CHECKS.due("x11 stays", one.register(1, 11), 44);
        CHECKS.due("it is nothing yet", one.descriptor(1, 5), PagedKernel.NONE);
        program.call(Asm.DUP, 1).set(11, 45).call(Asm.PIPE);
        PagedKernel none = program.ran(9, program.size());
        CHECKS.due("no descriptor", none.register(1, 10), -1);
        CHECKS.due("x11 stays then", none.register(1, 11), 45);
        program.call(Asm.CLOSE, 0).call(Asm.CLOSE, 4).call(Asm.PIPE);
        PagedKernel two = program.ran(9, program.size());
        CHECKS.due("the least", two.descriptor(1, 0), 5);
        CHECKS.due("the next least", two.descriptor(1, 4), 6);
        CHECKS.due("x10", two.register(1, 10), 0);
        CHECKS.due("x11", two.register(1, 11), 4);
    }

    private static void close() {
        Program program = new Program().call(Asm.CLOSE, 1).keep(20).call(Asm.CLOSE, 1).stay();
        PagedKernel kernel = program.ran(9, 7);
        CHECKS.due("closed", kernel.register(1, 20), 0);
        CHECKS.due("nothing", kernel.descriptor(1, 1), PagedKernel.NONE);
        CHECKS.due("it was nothing", kernel.register(1, 10), -1);
        int[] wrong = {6, -1, 100, Integer.MIN_VALUE, Integer.MAX_VALUE};
        for (int d : wrong) {
            Program bad = new Program().call(Asm.CLOSE, d);
            CHECKS.due("close " + d, bad.ran(9, bad.size()).register(1, 10), -1);
        }
    }

    private static void dup() {
        PagedKernel kernel = new Program().call(Asm.DUP, 1).keep(20).call(Asm.CLOSE, 1).call(Asm.WRITE, 0, 70).stay().ran(9, 11);
        CHECKS.due("the least", kernel.register(1, 20), 0);
        CHECKS.due("the console", kernel.descriptor(1, 0), 0);
        CHECKS.due("closed", kernel.descriptor(1, 1), PagedKernel.NONE);
        CHECKS.dueConsole("written", kernel, "F");
        Program ends = new Program().call(Asm.PIPE).call(Asm.DUP, 2).keep(20).call(Asm.DUP, 0).keep(21).call(Asm.DUP, 1);
        ends.keep(22).call(Asm.DUP, 1).keep(23);
        kernel = ends.ran(9, ends.size());
        CHECKS.due("dup of a writing end", kernel.register(1, 20), 3);
        CHECKS.due("what it is", kernel.descriptor(1, 3), 2);
        CHECKS.due("dup of a reading end", kernel.register(1, 21), 4);
        CHECKS.due("what that is", kernel.descriptor(1, 4), 1);
        CHECKS.due("the last", kernel.register(1, 22), 5);
        CHECKS.due("none is left", kernel.register(1, 23), -1);
        int[] wrong = {0, 5, 6, -1, Integer.MIN_VALUE, Integer.MAX_VALUE};
        for (int d : wrong) {
            Program bad = new Program().call(Asm.DUP, d);
            kernel = bad.ran(9, bad.size());
            CHECKS.due("dup " + d, kernel.register(1, 10), -1);
            CHECKS.due("nothing is set", kernel.descriptor(1, 0), PagedKernel.NONE);
        }
    }

    private static void writeWithoutReader() {
        PagedKernel kernel = new Program().call(Asm.PIPE).call(Asm.WRITE, 2, 5).call(Asm.CLOSE, 0).call(Asm.WRITE, 2, 6).stay()
            .ran(9, 13);
        CHECKS.due("-1", kernel.register(1, 10), -1);
        CHECKS.due("what it held it holds", kernel.held(0), 1);
        CHECKS.due("ready", kernel.stateOf(1), 1);
    }

    private static void readWithoutWriter() {
        PagedKernel kernel = new Program().call(Asm.PIPE).call(Asm.WRITE, 2, 200).call(Asm.CLOSE, 2).set(11, 9).call(Asm.READ, 0)
            .keep(20).call(Asm.READ, 0).stay().ran(9, 17);
        CHECKS.due("the byte first", kernel.register(1, 20), 200);
        CHECKS.due("then -1", kernel.register(1, 10), -1);
        CHECKS.due("x11 stays", kernel.register(1, 11), 9);
        CHECKS.due("ready", kernel.stateOf(1), 1);
    }

    /** A dup keeps the pipe: the bytes stay while any end is there. */
    private static void bytesStayForReader() {
        Program program = new Program().call(Asm.PIPE).call(Asm.DUP, 0).call(Asm.WRITE, 2, 3).call(Asm.CLOSE, 0)
            .call(Asm.WRITE, 2, 4).call(Asm.CLOSE, 2);
        PagedKernel kernel = program.ran(9, program.size());
        CHECKS.due("both bytes are there", kernel.held(0), 2);
        CHECKS.due("the dup reads them", kernel.descriptor(1, 3), 1);
    }

    private static void freePipeIsEmpty() {
        Program program = new Program().call(Asm.PIPE).call(Asm.WRITE, 2, 3).call(Asm.WRITE, 2, 4).call(Asm.CLOSE, 2)
            .call(Asm.CLOSE, 0);
        PagedKernel kernel = program.ran(9, program.size());
        CHECKS.due("free and empty", kernel.held(0), 0);
        program.call(Asm.PIPE).call(Asm.WRITE, 2, 9).call(Asm.READ, 0);
        kernel = program.ran(9, program.size());
        CHECKS.due("the same pipe again", kernel.descriptor(1, 0), 1);
        CHECKS.due("with its own byte", kernel.register(1, 10), 9);
        PagedKernel ended = new Program().call(Asm.PIPE).call(Asm.WRITE, 2, 3).add(0).booted(4, 9);
        ended.run(6);
        CHECKS.due("it holds one", ended.held(0), 1);
        ended.step();
        CHECKS.due("free when its only process has ended", ended.held(0), 0);
    }

    /** 1 writes until the pipe is full; 2, forked before, then reads one byte. */
    private static void fullPipe() {
        Program program = new Program().call(Asm.PIPE).call(Asm.FORK);
        int toChild = program.here();
        program.add(0).set(17, Asm.WRITE).set(11, 30);
        int again = program.here();
        program.set(10, 2).add(Asm.CALL, Asm.number(0, 11, 11, 1), Asm.jal(0, again - program.here() - 8));
        program.mend(toChild, Asm.branch(0, 10, 0, program.here() - toChild));
        program.nothing(45).call(Asm.READ, 0).keep(20).stay();
        PagedKernel kernel = program.booted(40, 9);
        for (int i = 0; i < 200 && kernel.stateOf(1) != 3; i++) {
            kernel.step();
        }
        CHECKS.due("writing", kernel.stateOf(1), 3);
        CHECKS.due("eight bytes", kernel.held(0), 8);
        CHECKS.due("x10 stays", kernel.register(1, 10), 2);
        CHECKS.due("the ninth", kernel.register(1, 11), 38);
        CHECKS.due("pc stays", kernel.word(1, kernel.pc(1)), Asm.CALL);
        for (int i = 0; i < 200 && kernel.held(0) == 8; i++) {
            kernel.step();
        }
        CHECKS.due("2 read the first", kernel.register(2, 10), 30);
        CHECKS.due("seven bytes", kernel.held(0), 7);
        CHECKS.due("1 is ready", kernel.stateOf(1), 1);
        for (int i = 0; i < 200 && kernel.stateOf(1) != 3; i++) {
            kernel.step();
        }
        CHECKS.due("full again", kernel.held(0), 8);
        CHECKS.due("the tenth", kernel.register(1, 11), 39);
    }

    /** 1 is WRITING, having closed its reading end; 2 closes the last one. */
    private static void writerWokenByClose() {
        Program program = new Program().call(Asm.PIPE).call(Asm.FORK);
        int toChild = program.here();
        program.add(0).call(Asm.CLOSE, 0).set(17, Asm.WRITE);
        int again = program.here();
        program.set(10, 2).add(Asm.CALL, Asm.branch(5, 10, 0, -8)).stay();
        program.mend(toChild, Asm.branch(0, 10, 0, program.here() - toChild));
        program.nothing(45).call(Asm.CLOSE, 0).stay();
        PagedKernel kernel = program.booted(40, 9);
        for (int i = 0; i < 200 && kernel.stateOf(1) != 3; i++) {
            kernel.step();
        }
        CHECKS.due("writing", kernel.stateOf(1), 3);
        for (int i = 0; i < 200 && kernel.stateOf(1) == 3; i++) {
            CHECKS.due("2 has the reading end", kernel.descriptor(2, 0), 1);
            kernel.step();
        }
        CHECKS.due("2 closed it", kernel.descriptor(2, 0), PagedKernel.NONE);
        CHECKS.due("1 is ready", kernel.stateOf(1), 1);
        kernel.run(30);
        CHECKS.due("-1", kernel.register(1, 10), -1);
        CHECKS.due("the bytes stay", kernel.held(0), 8);
        CHECKS.due("where it goes on", kernel.pc(1), again + 12);
    }

    /** 1 is READING, having closed its writing end; 2 ends and with it the last one. */
    private static void readerWokenByClose() {
        Program program = new Program().call(Asm.PIPE).call(Asm.FORK);
        int toChild = program.here();
        program.add(0).call(Asm.CLOSE, 2).call(Asm.READ, 0).stay();
        program.mend(toChild, Asm.branch(0, 10, 0, program.here() - toChild));
        program.nothing(20).add(0);
        PagedKernel kernel = program.booted(40, 9);
        for (int i = 0; i < 200 && kernel.stateOf(1) != 2; i++) {
            kernel.step();
        }
        CHECKS.due("reading", kernel.stateOf(1), 2);
        CHECKS.due("x10 stays", kernel.register(1, 10), 0);
        for (int i = 0; i < 200 && kernel.stateOf(2) != 5; i++) {
            CHECKS.due("it reads yet", kernel.stateOf(1), 2);
            kernel.step();
        }
        CHECKS.due("ready", kernel.stateOf(1), 1);
        kernel.step();
        CHECKS.due("-1", kernel.register(1, 10), -1);
    }

    /** Each pipe is filled, written to the console beside, read from, and its reading end kept. */
    private static void everyPipe() {
        Program program = new Program().call(Asm.PIPE).add(Asm.branch(5, 10, 0, 8)).stay();
        program.add(Asm.number(0, 6, 10, 0), Asm.number(0, 7, 11, 0)).set(5, 8).set(17, Asm.WRITE);
        int again = program.here();
        program.add(Asm.number(0, 10, 7, 0), Asm.number(0, 11, 5, 40), Asm.CALL, Asm.number(0, 5, 5, -1));
        program.add(Asm.branch(1, 5, 0, again - program.here())).call(Asm.WRITE, 1, 'x').nothing(1);
        program.set(17, Asm.READ).add(Asm.number(0, 10, 6, 0), Asm.CALL, Asm.number(0, 11, 10, 0)).call(Asm.WRITE, 1);
        program.add(Asm.number(0, 10, 7, 0)).call(Asm.CLOSE);
        program.add(Asm.jal(0, -program.here()));
        PagedKernel kernel = program.booted(12, 4);
        for (int i = 0; i < 20; i++) {
            kernel.run(20);
        }
        CHECKS.dueConsole("a mark and the first byte of each", kernel, "x0x0x0x0");
        for (int pipe = 0; pipe < 4; pipe++) {
            CHECKS.due("held by " + pipe, kernel.held(pipe), 7);
        }
        int[] ends = {1, 0, 3, 5, 7, -1};
        for (int d = 0; d < 6; d++) {
            CHECKS.due("descriptor " + d, kernel.descriptor(1, d), ends[d]);
        }
    }
}
