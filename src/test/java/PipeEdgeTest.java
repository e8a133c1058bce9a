/** The term CALLS, the calls 6 to 10: each sentence that names an edge, by itself. */
public final class PipeEdgeTest {
    private static final Checks CHECKS = new Checks("edges of the console and the pipes");
    private static final int NONE = PagedKernel.NONE;
    private static final int LEAST = Integer.MIN_VALUE;
    private static final int MOST = Integer.MAX_VALUE;
    private static final int[] NO_DESCRIPTOR = {6, 7, -1, -6, 8, 32, 256, 65536 + 1, LEAST, LEAST + 1, MOST};

    public static void main(String[] args) {
        lowestByte();
        consoleBehind();
        consoleBesideFullPipes();
        consoleFull();
        noReadingEnd();
        noReadingEndOfFullPipe();
        fullPipe();
        writingUntilFewer();
        writingUntilNoReader();
        writeIntoPipe();
        writeToWrong();
        readFirst();
        readWithoutWriter();
        readSleeps();
        readingUntilByte();
        readingUntilNoWriter();
        readingUntilKilled();
        readFromWrong();
        pipeOpens();
        noPipe();
        fewDescriptors();
        closes();
        dups();
        dupRefused();
        noSuchDescriptor();
        CHECKS.finish();
    }

    /** A pipe with its ends at 0 and 2, into which so many bytes 50, 51, .. were written. */
    private static Program piped(int bytes) {
        Program program = new Program().call(Asm.PIPE).set(17, Asm.WRITE).set(11, 50);
        for (int i = 0; i < bytes; i++) {
            program.set(10, 2).add(Asm.CALL, Asm.number(0, 11, 11, 1));
        }
        return program;
    }

    private static void lowestByte() {
        CHECKS.sentence("6 WRITE to descriptor a the lowest byte b of x11: .. The answer is b");
        int[] given = {0, 127, 128, 255, 256, 511, -1, -128, -129, LEAST, MOST, 0x12345680};
        int[] bytes = {0, 127, 128, 255, 0, 255, 255, 128, 127, 0, 255, 128};
        for (int i = 0; i < given.length; i++) {
            PagedKernel console = LastCall.answers(CHECKS, "console " + given[i], new Program().call(Asm.WRITE, 1, given[i]),
                bytes[i]);
            CHECKS.due("byte", console.console(0), bytes[i]);
            CHECKS.due("x11 stays", console.register(1, 11), given[i]);
            Program pipe = new Program().call(Asm.PIPE).call(Asm.WRITE, 2, given[i]);
            PagedKernel written = LastCall.answers(CHECKS, "pipe " + given[i], pipe, bytes[i]);
            CHECKS.due("x11 stays by the pipe", written.register(1, 11), given[i]);
            LastCall.answers(CHECKS, "read " + given[i], pipe.call(Asm.READ, 0), bytes[i]);
        }
    }

    private static void consoleBehind() {
        CHECKS.sentence("6 WRITE: to the console, where it stands behind the others");
        Program twice = new Program().call(Asm.WRITE, 1, 'c').call(Asm.WRITE, 1, 'd').stay();
        PagedKernel kernel = new Program().call(Asm.WRITE, 1, 'a').call(Asm.WRITE, 1, 'b').fork(twice).delay(20)
            .call(Asm.WRITE, 1, 'e').stay().ran(9, 200);
        CHECKS.dueConsole("of two processes", kernel, "abcde");
    }

    /** All pipes are full: that is nothing to the console. */
    private static void consoleBesideFullPipes() {
        CHECKS.sentence("6 WRITE: to the console: whatever the pipes hold");
        // The console moves to 0, so that each of four rounds finds 1 for a reading end and leaves a writing end.
        Program program = new Program().call(Asm.DUP, 1).keep(9).call(Asm.CLOSE, 1).set(20, 4);
        int again = program.here();
        program.call(Asm.PIPE).add(Asm.number(0, 6, 10, 0), Asm.number(0, 7, 11, 0)).set(5, 8).set(17, Asm.WRITE);
        program.add(Asm.number(0, 10, 7, 0), Asm.CALL, Asm.number(0, 5, 5, -1), Asm.branch(1, 5, 0, -12));
        program.set(11, 'z').add(Asm.number(0, 10, 9, 0), Asm.CALL).set(17, Asm.CLOSE).add(Asm.number(0, 10, 6, 0), Asm.CALL);
        program.add(Asm.number(0, 20, 20, -1), Asm.branch(1, 20, 0, again - program.here() - 4)).stay();
        PagedKernel kernel = program.booted(40, 9);
        CHECKS.until("all four are filled", kernel, () -> kernel.pc(1) == program.here() - 4);
        for (int p = 0; p < 4; p++) {
            CHECKS.due("held by " + p, kernel.held(p), 8);
        }
        CHECKS.dueConsole("one byte beside each", kernel, "zzzz");
    }

    private static void consoleFull() {
        CHECKS.sentence("6 WRITE: to the console .. (at most 200; -1 when there are 200)");
        Program program = new Program().set(17, Asm.WRITE).set(11, 1);
        program.set(10, 1).add(Asm.CALL, Asm.branch(4, 10, 0, 12), Asm.number(0, 11, 11, 1), Asm.jal(0, -16)).stay();
        PagedKernel kernel = program.booted(12, 9);
        CHECKS.until("199", kernel, () -> kernel.consoleLength() == 199);
        CHECKS.until("200", kernel, () -> kernel.consoleLength() == 200);
        CHECKS.due("the 200th is taken", kernel.register(1, 10), 200);
        CHECKS.until("the 201st is not", kernel, () -> kernel.register(1, 10) == -1);
        CHECKS.due("it was the 201st", kernel.register(1, 11), 201);
        CHECKS.due("200 stay", kernel.consoleLength(), 200);
        CHECKS.due("the last one", kernel.console(199), 200);
        CHECKS.due("none behind it", kernel.console(200), NONE);
        CHECKS.due("it is ready, it need not wait", kernel.stateOf(1), 1);
    }

    private static void noReadingEnd() {
        CHECKS.sentence("6 WRITE: to a writing end: -1 when nobody has the pipe's reading end");
        for (int bytes = 0; bytes < 3; bytes++) {
            PagedKernel kernel = LastCall.refused(CHECKS, "holding " + bytes, piped(bytes).call(Asm.CLOSE, 0).call(Asm.WRITE, 2));
            CHECKS.due("it holds them yet", kernel.held(0), bytes);
        }
        Program has = new Program().call(Asm.PIPE).fork(new Program().stay()).call(Asm.CLOSE, 0).call(Asm.WRITE, 2, 9);
        LastCall.answers(CHECKS, "another process has it", has, 9);
        Program ended = new Program().call(Asm.PIPE).fork(new Program().add(0)).call(Asm.CLOSE, 0).delay(20)
            .call(Asm.WRITE, 2, 9);
        LastCall.refused(CHECKS, "the other has ended", ended);
        Program other = new Program().call(Asm.PIPE).call(Asm.PIPE).call(Asm.CLOSE, 0).call(Asm.WRITE, 2, 9);
        LastCall.refused(CHECKS, "the reading end of another pipe is none", other);
    }

    private static void noReadingEndOfFullPipe() {
        CHECKS.sentence("6 WRITE: -1 when nobody has the pipe's reading end; else, when it holds 8 bytes: the one "
            + "before the other");
        PagedKernel kernel = LastCall.refused(CHECKS, "full", piped(8).call(Asm.CLOSE, 0).call(Asm.WRITE, 2));
        CHECKS.due("ready", kernel.stateOf(1), 1);
        CHECKS.due("it holds 8", kernel.held(0), 8);
    }

    private static void fullPipe() {
        CHECKS.sentence("6 WRITE: else, when it holds 8 bytes, the process is WRITING");
        LastCall.answers(CHECKS, "seven are not eight", piped(7).call(Asm.WRITE, 2), 57);
        PagedKernel kernel = LastCall.sleeps(CHECKS, "eight", piped(8).call(Asm.WRITE, 2), 3);
        CHECKS.due("the byte is not in it", kernel.held(0), 8);
        CHECKS.due("the only process writes for ever", kernel.step(), 0);
    }

    private static void writingUntilFewer() {
        CHECKS.sentence("6 WRITE: the process is WRITING until it holds fewer");
        Program reader = new Program().delay(60).call(Asm.READ, 0).keep(20).stay();
        Program program = new Program().call(Asm.PIPE).fork(reader).set(17, Asm.WRITE).set(11, 50);
        program.set(10, 2).add(Asm.CALL, Asm.number(0, 11, 11, 1), Asm.jal(0, -12));
        PagedKernel kernel = program.booted(40, 9);
        CHECKS.until("it writes", kernel, () -> kernel.stateOf(1) == 3);
        CHECKS.due("the ninth byte", kernel.register(1, 11), 58);
        for (int i = 0; i < 500 && kernel.held(0) == 8 && kernel.step() == 2; i++) {
            CHECKS.due("as long as it holds 8", kernel.stateOf(1), kernel.held(0) == 8 ? 3 : 1);
        }
        CHECKS.due("seven now", kernel.held(0), 7);
        CHECKS.until("the call is made again", kernel, () -> kernel.held(0) == 8);
        CHECKS.until("and the next one sleeps", kernel, () -> kernel.stateOf(1) == 3);
        CHECKS.due("the tenth byte", kernel.register(1, 11), 59);
        CHECKS.due("the reader had the first", kernel.register(2, 20), 50);
    }

    private static void writingUntilNoReader() {
        CHECKS.sentence("6 WRITE: the process is WRITING until .. nobody has the reading end");
        Program[] losses = {new Program().call(Asm.CLOSE, 0).stay(), new Program().add(0), new Program().call(Asm.EXIT, 0)};
        for (Program loss : losses) {
            Program program = new Program().call(Asm.PIPE).fork(new Program().delay(60).part(loss)).call(Asm.CLOSE, 0)
                .set(17, Asm.WRITE);
            program.set(10, 2).add(Asm.CALL, Asm.branch(5, 10, 0, -8)).stay();
            PagedKernel kernel = program.booted(40, 9);
            CHECKS.until("it writes", kernel, () -> kernel.stateOf(1) == 3);
            for (int i = 0; i < 500 && kernel.stateOf(1) == 3 && kernel.step() == 2; i++) {
                CHECKS.due("as long as 2 has it", kernel.stateOf(1), kernel.descriptor(2, 0) == 1 ? 3 : 1);
            }
            CHECKS.due("2 has it no more", kernel.descriptor(2, 0), NONE);
            CHECKS.until("then -1", kernel, () -> kernel.register(1, 10) == -1);
            CHECKS.due("eight bytes stay", kernel.held(0), 8);
        }
    }

    private static void writeIntoPipe() {
        CHECKS.sentence("6 WRITE: else it goes into the pipe");
        for (int bytes = 0; bytes < 8; bytes++) {
            PagedKernel kernel = LastCall.answers(CHECKS, "byte " + bytes, piped(bytes).call(Asm.WRITE, 2), 50 + bytes);
            CHECKS.due("held", kernel.held(0), bytes + 1);
            CHECKS.due("not on the console", kernel.consoleLength(), 0);
        }
        Program dup = new Program().call(Asm.PIPE).call(Asm.DUP, 2).call(Asm.CLOSE, 2).call(Asm.WRITE, 3, 9);
        CHECKS.due("by a dup", LastCall.answers(CHECKS, "dup", dup, 9).held(0), 1);
    }

    private static void writeToWrong() {
        CHECKS.sentence("6 WRITE: -1 when the descriptor is nothing or a reading end");
        for (int d : new int[] {0, 2, 3, 4, 5}) {
            LastCall.refused(CHECKS, "nothing at " + d, new Program().call(Asm.WRITE, d, 65));
        }
        LastCall.refused(CHECKS, "closed", new Program().call(Asm.CLOSE, 1).call(Asm.WRITE, 1, 65));
        LastCall.refused(CHECKS, "a reading end", new Program().call(Asm.PIPE).call(Asm.WRITE, 0, 65));
        LastCall.refused(CHECKS, "a reading end of a full pipe", piped(8).call(Asm.WRITE, 0));
    }

    private static void readFirst() {
        CHECKS.sentence("7 READ: from a reading end the byte that went in first, which leaves the pipe");
        for (int bytes = 1; bytes <= 8; bytes++) {
            Program program = piped(bytes).set(11, 77);
            for (int i = 0; i < bytes; i++) {
                program.set(10, 0).set(17, Asm.READ).add(Asm.CALL);
                PagedKernel kernel = LastCall.answers(CHECKS, "byte " + i + " of " + bytes, program, 50 + i);
                CHECKS.due("left", kernel.held(0), bytes - 1 - i);
                CHECKS.due("x11 stays", kernel.register(1, 11), 77);
            }
        }
        // The bytes go round in the pipe: more of them than it holds, three at a time.
        Program round = new Program().call(Asm.PIPE).set(20, 0).set(11, 10);
        int again = round.here();
        for (int i = 0; i < 3; i++) {
            round.call(Asm.WRITE, 2).add(Asm.number(0, 11, 11, 1));
        }
        for (int i = 0; i < 3; i++) {
            round.call(Asm.READ, 0).add(Asm.shift(1, 0, 20, 20, 1), Asm.registers(0, 0, 20, 20, 10));
        }
        round.add(Asm.jal(0, again - round.here()));
        PagedKernel kernel = round.ran(9, 4 + 20 * 28);
        int sum = 0;
        for (int i = 0; i < 60; i++) {
            sum = (sum << 1) + (10 + i);
        }
        CHECKS.due("all came out as they went in", kernel.register(1, 20), sum);
    }

    private static void readWithoutWriter() {
        CHECKS.sentence("7 READ: when it is empty: -1 if nobody has the writing end");
        LastCall.refused(CHECKS, "empty", new Program().call(Asm.PIPE).call(Asm.CLOSE, 2).call(Asm.READ, 0, 7));
        LastCall.answers(CHECKS, "not yet empty", piped(1).call(Asm.CLOSE, 2).call(Asm.READ, 0), 50);
        LastCall.refused(CHECKS, "empty then", piped(1).call(Asm.CLOSE, 2).call(Asm.READ, 0).call(Asm.READ, 0));
        Program ended = new Program().call(Asm.PIPE).fork(new Program().add(0)).call(Asm.CLOSE, 2).delay(20).call(Asm.READ, 0);
        LastCall.refused(CHECKS, "the other has ended", ended);
        LastCall.refused(CHECKS, "the writing end of another pipe is none",
            new Program().call(Asm.PIPE).call(Asm.PIPE).call(Asm.CLOSE, 2).call(Asm.READ, 0));
    }

    private static void readSleeps() {
        CHECKS.sentence("7 READ: when it is empty: .. else the process is READING");
        PagedKernel own = LastCall.sleeps(CHECKS, "its own writing end", new Program().call(Asm.PIPE).call(Asm.READ, 0, 7), 2);
        CHECKS.due("the only process reads for ever", own.step(), 0);
        Program other = new Program().call(Asm.PIPE).fork(new Program().stay()).call(Asm.CLOSE, 2).call(Asm.READ, 0);
        LastCall.sleeps(CHECKS, "the writing end of another process", other, 2);
        LastCall.sleeps(CHECKS, "empty again", piped(1).call(Asm.READ, 0).call(Asm.READ, 0), 2);
    }

    private static void readingUntilByte() {
        CHECKS.sentence("7 READ: the process is READING until it holds a byte");
        Program program = new Program().call(Asm.PIPE).fork(new Program().delay(30).call(Asm.WRITE, 2, 200).stay())
            .call(Asm.READ, 0);
        PagedKernel kernel = LastCall.sleeps(CHECKS, "it reads", program, 2);
        for (int i = 0; i < 500 && kernel.held(0) == 0 && kernel.step() == 2; i++) {
            CHECKS.due("as long as it is empty", kernel.stateOf(1), kernel.held(0) == 0 ? 2 : 1);
        }
        CHECKS.due("a byte is there", kernel.held(0), 1);
        CHECKS.until("and is read", kernel, () -> kernel.held(0) == 0);
        CHECKS.due("answer", kernel.register(1, 10), 200);
    }

    private static void readingUntilNoWriter() {
        CHECKS.sentence("7 READ: the process is READING until .. nobody has the writing end");
        Program[] losses = {new Program().call(Asm.CLOSE, 2).stay(), new Program().add(0), new Program().call(Asm.KILL, 2)};
        for (Program loss : losses) {
            Program program = new Program().call(Asm.PIPE).fork(new Program().delay(30).part(loss)).call(Asm.CLOSE, 2)
                .call(Asm.READ, 0);
            PagedKernel kernel = LastCall.sleeps(CHECKS, "it reads", program, 2);
            for (int i = 0; i < 500 && kernel.stateOf(1) == 2 && kernel.step() == 2; i++) {
                CHECKS.due("as long as 2 has it", kernel.stateOf(1), kernel.descriptor(2, 2) == 2 ? 2 : 1);
            }
            CHECKS.due("2 has it no more", kernel.descriptor(2, 2), NONE);
            CHECKS.until("then -1", kernel, () -> kernel.register(1, 10) == -1);
            CHECKS.due("pc", kernel.pc(1), program.here());
        }
    }

    private static void readingUntilKilled() {
        CHECKS.sentence("7 READ: the process is READING until .. nobody has the writing end: by a KILL too");
        Program holder = new Program().stay();
        Program killer = new Program().call(Asm.CLOSE, 2).delay(30).call(Asm.KILL, 2).stay();
        Program program = new Program().call(Asm.PIPE).fork(holder).fork(killer).call(Asm.CLOSE, 2).call(Asm.READ, 0);
        PagedKernel kernel = LastCall.sleeps(CHECKS, "it reads", program, 2);
        CHECKS.until("2 is killed", kernel, () -> kernel.stateOf(2) == 5);
        CHECKS.due("1 is ready in the very step", kernel.stateOf(1), 1);
        CHECKS.until("then -1", kernel, () -> kernel.register(1, 10) == -1);
    }

    private static void readFromWrong() {
        CHECKS.sentence("7 READ: -1 when the descriptor is nothing, the console or a writing end");
        for (int d : new int[] {0, 2, 3, 4, 5}) {
            LastCall.refused(CHECKS, "nothing at " + d, new Program().call(Asm.READ, d));
        }
        LastCall.refused(CHECKS, "the console", new Program().call(Asm.WRITE, 1, 65).call(Asm.READ, 1));
        LastCall.refused(CHECKS, "a writing end", piped(1).call(Asm.READ, 2));
        LastCall.refused(CHECKS, "a writing end of an empty pipe", piped(0).call(Asm.READ, 2));
    }

    private static void pipeOpens() {
        CHECKS.sentence("8 PIPE: the least free pipe; the least descriptor that is nothing becomes its reading "
            + "end, the next least its writing end");
        PagedKernel first = LastCall.answers(CHECKS, "first", new Program().call(Asm.PIPE), 0);
        dueDescriptors(first, 1, 0, 2, -1, -1, -1);
        CHECKS.due("x11", first.register(1, 11), 2);
        PagedKernel second = LastCall.answers(CHECKS, "second", new Program().call(Asm.PIPE).call(Asm.PIPE), 3);
        dueDescriptors(second, 1, 0, 2, 3, 4, -1);
        CHECKS.due("x11 of the second", second.register(1, 11), 4);
        Program apart = new Program().call(Asm.PIPE).call(Asm.PIPE).call(Asm.CLOSE, 0).call(Asm.PIPE);
        dueDescriptors(LastCall.answers(CHECKS, "0 and 5", apart, 0), 5, 0, 2, 3, 4, 6);
        Program least = new Program().call(Asm.PIPE).call(Asm.PIPE).call(Asm.CLOSE, 0).call(Asm.CLOSE, 2).call(Asm.PIPE);
        dueDescriptors(LastCall.answers(CHECKS, "pipe 0 is free again, 1 is not", least, 0), 1, 0, 2, 3, 4, -1);
        Program last = new Program().part(threePipes()).call(Asm.PIPE);
        dueDescriptors(LastCall.answers(CHECKS, "pipe 3", last, 0), 7, 8, 2, 4, 6, -1);
    }

    private static void dueDescriptors(PagedKernel kernel, int... ends) {
        for (int d = 0; d < 6; d++) {
            CHECKS.due("descriptor " + d, kernel.descriptor(1, d), ends[d]);
        }
    }

    /** The writing ends of the pipes 0, 1 and 2 are at 2, 3 and 4; all else is nothing. */
    private static Program threePipes() {
        Program program = new Program().call(Asm.PIPE).call(Asm.CLOSE, 0).call(Asm.CLOSE, 1);
        for (int i = 0; i < 2; i++) {
            program.call(Asm.PIPE).call(Asm.DUP, 1).call(Asm.CLOSE, 0).call(Asm.CLOSE, 1);
        }
        return program;
    }

    private static void noPipe() {
        CHECKS.sentence("8 PIPE: -1 (x11 staying) when no pipe .. is there for it");
        Program four = threePipes().call(Asm.PIPE).call(Asm.CLOSE, 1).set(11, 99).call(Asm.PIPE);
        PagedKernel kernel = LastCall.refused(CHECKS, "four are taken", four);
        dueDescriptors(kernel, 7, -1, 2, 4, 6, -1);
        Program freed = threePipes().call(Asm.PIPE).call(Asm.CLOSE, 1).call(Asm.CLOSE, 0).call(Asm.PIPE);
        LastCall.answers(CHECKS, "one is free again", freed, 0);
    }

    private static void fewDescriptors() {
        CHECKS.sentence("8 PIPE: -1 (x11 staying) when .. only one descriptor .. is there for it");
        Program two = new Program().call(Asm.PIPE).call(Asm.PIPE).set(11, 99);
        LastCall.refused(CHECKS, "the last one", new Program().part(two).call(Asm.PIPE));
        Program first = new Program().part(two).call(Asm.DUP, 1).call(Asm.CLOSE, 0).set(11, 99).call(Asm.PIPE);
        LastCall.refused(CHECKS, "the first one", first);
        CHECKS.sentence("8 PIPE: -1 (x11 staying) when .. no descriptor is there for it");
        LastCall.refused(CHECKS, "none", new Program().part(two).call(Asm.DUP, 1).set(11, 99).call(Asm.PIPE));
        Program both = new Program().part(two).call(Asm.DUP, 1).call(Asm.CLOSE, 4).call(Asm.CLOSE, 5).call(Asm.PIPE);
        LastCall.answers(CHECKS, "two are enough", both, 4);
    }

    private static void closes() {
        CHECKS.sentence("9 CLOSE: descriptor a is nothing; 0");
        PagedKernel console = LastCall.answers(CHECKS, "the console", new Program().call(Asm.CLOSE, 1, 7), 0);
        dueDescriptors(console, -1, -1, -1, -1, -1, -1);
        CHECKS.due("x11 stays", console.register(1, 11), 7);
        dueDescriptors(LastCall.answers(CHECKS, "a reading end", piped(0).call(Asm.CLOSE, 0), 0), -1, 0, 2, -1, -1, -1);
        dueDescriptors(LastCall.answers(CHECKS, "a writing end", piped(0).call(Asm.CLOSE, 2), 0), 1, 0, -1, -1, -1, -1);
        Program last = piped(0);
        for (int i = 0; i < 3; i++) {
            last.call(Asm.DUP, 1);
        }
        dueDescriptors(LastCall.answers(CHECKS, "the last", last.call(Asm.CLOSE, 5), 0), 1, 0, 2, 0, 0, -1);
        Program copy = new Program().fork(new Program().stay()).call(Asm.CLOSE, 1);
        CHECKS.due("only its own", LastCall.answers(CHECKS, "of one", copy, 0).descriptor(2, 1), 0);
        CHECKS.sentence("9 CLOSE: -1 when it was");
        for (int d : new int[] {0, 2, 3, 4, 5}) {
            LastCall.refused(CHECKS, "nothing at " + d, new Program().call(Asm.CLOSE, d, 7));
        }
        LastCall.refused(CHECKS, "closed before", new Program().call(Asm.CLOSE, 1).call(Asm.CLOSE, 1));
    }

    private static void dups() {
        CHECKS.sentence("10 DUP: the least descriptor that is nothing becomes what a is; the answer is its number");
        dueDescriptors(LastCall.answers(CHECKS, "the console", new Program().call(Asm.DUP, 1), 0), 0, 0, -1, -1, -1, -1);
        dueDescriptors(LastCall.answers(CHECKS, "a reading end", piped(0).call(Asm.DUP, 0), 3), 1, 0, 2, 1, -1, -1);
        dueDescriptors(LastCall.answers(CHECKS, "a writing end", piped(0).call(Asm.DUP, 2), 3), 1, 0, 2, 2, -1, -1);
        Program gap = piped(0).call(Asm.DUP, 2).call(Asm.CLOSE, 1).call(Asm.DUP, 3);
        dueDescriptors(LastCall.answers(CHECKS, "a gap below it", gap, 1), 1, 2, 2, 2, -1, -1);
        Program last = new Program().call(Asm.PIPE).call(Asm.PIPE).call(Asm.DUP, 4);
        dueDescriptors(LastCall.answers(CHECKS, "the last that is nothing", last, 5), 1, 0, 2, 3, 4, 4);
    }

    private static void dupRefused() {
        CHECKS.sentence("10 DUP: -1 when a is nothing");
        for (int d : new int[] {0, 2, 3, 4, 5}) {
            LastCall.refused(CHECKS, "nothing at " + d, new Program().call(Asm.DUP, d, 7));
        }
        CHECKS.sentence("10 DUP: -1 when .. none is left");
        Program full = new Program().call(Asm.PIPE).call(Asm.PIPE).call(Asm.DUP, 1);
        for (int d = 0; d < 6; d++) {
            LastCall.refused(CHECKS, "dup of " + d, new Program().part(full).call(Asm.DUP, d));
        }
    }

    private static void noSuchDescriptor() {
        CHECKS.sentence("(A descriptor number that is not 0 .. 5 is nothing.)");
        Program full = new Program().call(Asm.PIPE).call(Asm.PIPE).call(Asm.DUP, 1);
        for (int kind : new int[] {Asm.WRITE, Asm.READ, Asm.CLOSE, Asm.DUP}) {
            for (int d : NO_DESCRIPTOR) {
                LastCall.refused(CHECKS, "call " + kind + " with " + d, new Program().call(kind, d, 65));
                LastCall.refused(CHECKS, "call " + kind + " with " + d + ", none being left",
                    new Program().part(full).call(kind, d, 65));
            }
        }
    }
}
