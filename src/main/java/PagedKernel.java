/**
 * A small kernel over a machine of 32 bits: processes with pages of their own are run by turns,
 * fork, wait for one another, grow, write to a console and through pipes, and are ended by faults.
 */
public final class PagedKernel {
    public static final int NONE = -1;

    private static final int PROCESSES = 8;
    private static final int FIRST_PROCESS = 1;
    private static final int NOBODY = 0;
    private static final int REGISTERS = 32;
    private static final int PAGES = 8;
    private static final int PAGE_WORDS = 16;
    private static final int PAGE_BYTES = 64;
    private static final int DESCRIPTORS = 6;
    private static final int PIPES = 4;
    private static final int PIPE_BYTES = 8;
    private static final int CONSOLE_BYTES = 200;
    private static final int PROGRAM_WORDS = 64;
    private static final int MOST_FRAMES = 40;
    private static final int USUAL_FRAMES = 12;
    private static final int MOST_QUANTUM = 9;
    private static final int USUAL_QUANTUM = 4;
    private static final int MOST_STEPS = 100;

    private static final int ABSENT = 0;
    private static final int READY = 1;
    private static final int READING = 2;
    private static final int WRITING = 3;
    private static final int WAITING = 4;
    private static final int ENDED = 5;

    private static final int CONSOLE = 0;

    private static final int STACK_POINTER = 2;
    private static final int ANSWER = 10;
    private static final int SECOND = 11;
    private static final int CALL_KIND = 17;

    private static final int YIELD = 0;
    private static final int EXIT = 1;
    private static final int OWN_NUMBER = 2;
    private static final int FORK = 3;
    private static final int WAIT = 4;
    private static final int GROW = 5;
    private static final int WRITE = 6;
    private static final int READ = 7;
    private static final int PIPE = 8;
    private static final int CLOSE = 9;
    private static final int DUP = 10;
    private static final int KILL = 11;

    private static final int REFUSED = -1;
    private static final int KILLED_EXIT = 137;
    private static final int FAULT_EXIT = 128;

    private static final int JUMP_FAULT = 0;
    private static final int FETCH_FAULT = 1;
    private static final int WORD_FAULT = 2;
    private static final int BREAK_FAULT = 3;
    private static final int CROOKED_READ_FAULT = 4;
    private static final int READ_FAULT = 5;
    private static final int CROOKED_PUT_FAULT = 6;
    private static final int PUT_FAULT = 7;

    // What an instruction came to when it was no fault; the faults are 0 .. 7.
    private static final int DONE = -1;
    private static final int CALLED = -2;

    private static final int SIGN_BIT = 1 << 31;
    private static final int CALL_WORD = 115;
    private static final int BREAK_WORD = 1048691;

    private final Memory memory;
    private final Task[] tasks;
    private final Pipe[] pipes;
    private final Row row;
    private final int quantum;
    private final int[] program;
    private final int[] printed;
    private int programLength;
    private int printedLength;
    private boolean booted;
    private int turn;
    private int stepsLeft;
    private boolean yielded;

    public PagedKernel(int frames, int quantum) {
        memory = new Memory(within(frames, MOST_FRAMES, USUAL_FRAMES));
        this.quantum = within(quantum, MOST_QUANTUM, USUAL_QUANTUM);
        tasks = new Task[PROCESSES];
        for (int i = 0; i < PROCESSES; i++) {
            tasks[i] = new Task(i + FIRST_PROCESS);
        }
        pipes = new Pipe[PIPES];
        for (int i = 0; i < PIPES; i++) {
            pipes[i] = new Pipe();
        }
        row = new Row();
        program = new int[PROGRAM_WORDS];
        printed = new int[CONSOLE_BYTES];
    }

    public boolean load(int word) {
        if (booted || programLength >= PROGRAM_WORDS) {
            return false;
        }
        program[programLength] = word;
        programLength++;
        return true;
    }

    public int boot() {
        if (booted) {
            return 1;
        }
        int needed = (programLength + PAGE_WORDS - 1) / PAGE_WORDS + 1;
        if (programLength == 0 || memory.unused < needed) {
            return 2;
        }
        booted = true;
        Task first = tasks[0];
        memory.give(first, needed);
        memory.copyProgram(first, program, programLength);
        first.setRegister(STACK_POINTER, PAGE_BYTES * needed);
        first.descriptors[1] = CONSOLE;
        makeReady(first);
        return 0;
    }

    public int step() {
        int maker = makeStep();
        if (maker != NOBODY) {
            return maker;
        }
        return allHaveEnded() ? -1 : 0;
    }

    public int run(int n) {
        if (n < 1 || n > MOST_STEPS) {
            return -1;
        }
        for (int made = 0; made < n; made++) {
            if (makeStep() == NOBODY) {
                return made;
            }
        }
        return n;
    }

    public int current() {
        return turn;
    }

    public int stateOf(int process) {
        Task task = find(process);
        return task == null ? ABSENT : task.state;
    }

    public int exitOf(int process) {
        Task task = find(process);
        return task == null || task.state != ENDED ? NONE : task.exit;
    }

    public int parentOf(int process) {
        Task task = find(process);
        return task == null ? NONE : task.parent;
    }

    public int freeFrames() {
        return memory.unused;
    }

    public int pages(int process) {
        Task task = find(process);
        return task == null ? 0 : task.pageCount;
    }

    public int register(int process, int k) {
        Task task = find(process);
        return task == null ? 0 : task.getRegister(k);
    }

    public int pc(int process) {
        Task task = find(process);
        return task == null ? 0 : task.counter;
    }

    public int word(int process, int address) {
        Task task = find(process);
        if (task == null || (address & 3) != 0) {
            return 0;
        }
        int place = memory.placeOf(task, address);
        return place == NONE ? 0 : memory.words[place];
    }

    public int descriptor(int process, int d) {
        Task task = find(process);
        return task == null ? NONE : task.endAt(d);
    }

    public int held(int pipe) {
        return pipe < 0 || pipe >= PIPES || isFreePipe(pipe) ? 0 : pipes[pipe].count;
    }

    public int consoleLength() {
        return printedLength;
    }

    public int console(int i) {
        return i < 0 || i >= printedLength ? NONE : printed[i];
    }

    public int waitingTurn(int i) {
        return row.at(i);
    }

    private static int within(int value, int most, int usual) {
        return value >= 1 && value <= most ? value : usual;
    }

    private Task find(int number) {
        if (number < FIRST_PROCESS || number > PROCESSES) {
            return null;
        }
        Task task = tasks[number - FIRST_PROCESS];
        return task.state == ABSENT ? null : task;
    }

    private boolean allHaveEnded() {
        for (int i = 0; i < PROCESSES; i++) {
            if (tasks[i].state != ABSENT && tasks[i].state != ENDED) {
                return false;
            }
        }
        return true;
    }

    private void makeReady(Task task) {
        task.state = READY;
        row.append(task.number);
    }

    /** Answers who made the step; NOBODY when there was none to make. */
    private int makeStep() {
        if (turn == NOBODY) {
            turn = row.takeFirst();
            stepsLeft = quantum;
        }
        int maker = turn;
        Task task = find(maker);
        if (task == null) {
            return NOBODY;
        }
        yielded = false;
        stepsLeft--;
        int outcome = Machine.execute(memory, task);
        if (outcome == CALLED && beginCall(task)) {
            task.setRegister(ANSWER, answerOf(task, task.getRegister(ANSWER)));
        } else if (outcome >= 0) {
            end(task, FAULT_EXIT + outcome);
        }
        passTurn(task);
        wakeSleepers();
        return maker;
    }

    private void passTurn(Task task) {
        if (task.state != READY) {
            turn = NOBODY;
        } else if (yielded || stepsLeft <= 0) {
            row.append(task.number);
            turn = NOBODY;
        }
    }

    private void wakeSleepers() {
        for (int i = 0; i < PROCESSES; i++) {
            Task task = tasks[i];
            if (task.sleeps() && obstacleOf(task) == READY) {
                makeReady(task);
            }
        }
    }

    /** False when the process must wait before its call can be made. */
    private boolean beginCall(Task task) {
        task.state = obstacleOf(task);
        if (task.state != READY) {
            return false;
        }
        // The PC grows before the call is made, so that a forked copy has the PC after it too.
        task.counter += 4;
        return true;
    }

    /**
     * The state in which the process must wait before its call can be made; READY when nothing is
     * in its way. A sleeping process keeps its registers, so it is asked in the same way.
     */
    private int obstacleOf(Task task) {
        int end = task.endAt(task.getRegister(ANSWER));
        switch (task.getRegister(CALL_KIND)) {
            case WAIT:
                return hasChild(task) && endedChildOf(task) == null ? WAITING : READY;
            case WRITE:
                return isWritingEnd(end) && pipeOf(end).isFull() && isHeld(end - 1) ? WRITING : READY;
            case READ:
                return isReadingEnd(end) && pipeOf(end).isEmpty() && isHeld(end + 1) ? READING : READY;
            default:
                return READY;
        }
    }

    /** Makes a call that nothing is in the way of; a call without an answer gives back its a. */
    private int answerOf(Task task, int a) {
        switch (task.getRegister(CALL_KIND)) {
            case YIELD:
                yielded = true;
                return a;
            case EXIT:
                end(task, a);
                return a;
            case OWN_NUMBER:
                return task.number;
            case FORK:
                return fork(task);
            case WAIT:
                return collectChild(task);
            case GROW:
                return grow(task, a);
            case WRITE:
                return write(task.endAt(a), task.getRegister(SECOND) & 255);
            case READ:
                return read(task.endAt(a));
            case PIPE:
                return openPipe(task);
            case CLOSE:
                return close(task, a);
            case DUP:
                return duplicate(task, a);
            case KILL:
                return kill(a);
            default:
                return REFUSED;
        }
    }

    private int fork(Task task) {
        Task child = leastAbsent();
        if (child == null || memory.unused < task.pageCount) {
            return REFUSED;
        }
        child.copyFrom(task);
        child.parent = task.number;
        child.setRegister(ANSWER, 0);
        memory.give(child, task.pageCount);
        memory.copyPages(task, child);
        makeReady(child);
        return child.number;
    }

    private Task leastAbsent() {
        for (int i = 0; i < PROCESSES; i++) {
            if (tasks[i].state == ABSENT) {
                return tasks[i];
            }
        }
        return null;
    }

    private int collectChild(Task task) {
        Task child = endedChildOf(task);
        if (child == null) {
            return REFUSED;
        }
        child.state = ABSENT;
        task.setRegister(SECOND, child.exit);
        return child.number;
    }

    private Task endedChildOf(Task task) {
        for (int i = 0; i < PROCESSES; i++) {
            if (tasks[i].isChildOf(task) && tasks[i].state == ENDED) {
                return tasks[i];
            }
        }
        return null;
    }

    private boolean hasChild(Task task) {
        for (int i = 0; i < PROCESSES; i++) {
            if (tasks[i].isChildOf(task)) {
                return true;
            }
        }
        return false;
    }

    private int grow(Task task, int more) {
        if (more < 1 || more > PAGES - task.pageCount || more > memory.unused) {
            return REFUSED;
        }
        memory.give(task, more);
        return task.pageCount;
    }

    private int write(int end, int b) {
        if (end == CONSOLE) {
            return print(b);
        }
        if (!isWritingEnd(end) || !isHeld(end - 1)) {
            return REFUSED;
        }
        pipeOf(end).put(b);
        return b;
    }

    private int print(int b) {
        if (printedLength >= CONSOLE_BYTES) {
            return REFUSED;
        }
        printed[printedLength] = b;
        printedLength++;
        return b;
    }

    private int read(int end) {
        return isReadingEnd(end) ? pipeOf(end).take() : REFUSED;
    }

    private int openPipe(Task task) {
        int readingEnd = leastFreeReadingEnd();
        int reader = task.leastNothing(0);
        int writer = task.leastNothing(reader + 1);
        if (readingEnd == NONE || reader == NONE || writer == NONE) {
            return REFUSED;
        }
        // What was left in the pipe when its last end went counts as gone, but lies there until now.
        pipeOf(readingEnd).empty();
        task.descriptors[reader] = readingEnd;
        task.descriptors[writer] = readingEnd + 1;
        task.setRegister(SECOND, writer);
        return reader;
    }

    private int close(Task task, int d) {
        if (task.endAt(d) == NONE) {
            return REFUSED;
        }
        task.descriptors[d] = NONE;
        return 0;
    }

    private int duplicate(Task task, int d) {
        int copy = task.leastNothing(0);
        if (task.endAt(d) == NONE || copy == NONE) {
            return REFUSED;
        }
        task.descriptors[copy] = task.descriptors[d];
        return copy;
    }

    private int kill(int number) {
        Task task = find(number);
        if (task == null || task.state == ENDED) {
            return REFUSED;
        }
        end(task, KILLED_EXIT);
        return 0;
    }

    private void end(Task task, int exit) {
        memory.takeBack(task);
        task.forgetDescriptors();
        row.drop(task.number);
        task.state = ENDED;
        task.exit = exit;
        handOverChildren(task);
        if (task.parent == NOBODY && task.number != FIRST_PROCESS) {
            task.state = ABSENT;
        }
    }

    private void handOverChildren(Task task) {
        // The one that ends bears ENDED by now, so the first process is no heir of its own.
        int heir = tasks[0].state == ENDED ? NOBODY : FIRST_PROCESS;
        for (int i = 0; i < PROCESSES; i++) {
            Task child = tasks[i];
            if (child.isChildOf(task)) {
                child.parent = heir;
                if (heir == NOBODY && child.state == ENDED) {
                    child.state = ABSENT;
                }
            }
        }
    }

    // A descriptor is NONE, CONSOLE, 1 + 2 * p for the reading or 2 + 2 * p for the writing end of p.

    private static boolean isReadingEnd(int end) {
        return end > CONSOLE && (end & 1) == 1;
    }

    private static boolean isWritingEnd(int end) {
        return end > CONSOLE && (end & 1) == 0;
    }

    private Pipe pipeOf(int end) {
        // The mask keeps every int inside the pipes.
        return pipes[((end - 1) >>> 1) & (PIPES - 1)];
    }

    private boolean isHeld(int end) {
        for (int i = 0; i < PROCESSES; i++) {
            for (int d = 0; d < DESCRIPTORS; d++) {
                if (tasks[i].descriptors[d] == end) {
                    return true;
                }
            }
        }
        return false;
    }

    private int leastFreeReadingEnd() {
        for (int p = 0; p < PIPES; p++) {
            if (isFreePipe(p)) {
                return 1 + 2 * p;
            }
        }
        return NONE;
    }

    private boolean isFreePipe(int p) {
        return !isHeld(1 + 2 * p) && !isHeld(2 + 2 * p);
    }

    /** A process; when it has ended its descriptors are nothing and it has no pages. */
    private static final class Task {
        final int number;
        final int[] registers = new int[REGISTERS];
        final int[] frames = new int[PAGES];
        final int[] descriptors = new int[DESCRIPTORS];
        int pageCount;
        int state;
        int counter;
        int parent;
        int exit;

        Task(int number) {
            this.number = number;
            for (int d = 0; d < DESCRIPTORS; d++) {
                descriptors[d] = NONE;
            }
        }

        int getRegister(int k) {
            return k < 0 || k >= REGISTERS ? 0 : registers[k];
        }

        void setRegister(int k, int value) {
            if (k > 0 && k < REGISTERS) {
                registers[k] = value;
            }
        }

        int endAt(int d) {
            return d < 0 || d >= DESCRIPTORS ? NONE : descriptors[d];
        }

        int leastNothing(int from) {
            for (int d = from; d < DESCRIPTORS; d++) {
                if (d >= 0 && descriptors[d] == NONE) {
                    return d;
                }
            }
            return NONE;
        }

        void forgetDescriptors() {
            for (int d = 0; d < DESCRIPTORS; d++) {
                descriptors[d] = NONE;
            }
        }

        boolean isChildOf(Task task) {
            return state != ABSENT && parent == task.number;
        }

        boolean sleeps() {
            return state == READING || state == WRITING || state == WAITING;
        }

        void copyFrom(Task task) {
            counter = task.counter;
            System.arraycopy(task.registers, 0, registers, 0, REGISTERS);
            System.arraycopy(task.descriptors, 0, descriptors, 0, DESCRIPTORS);
        }
    }

    /** The ready processes that wait for their turn, in their order. */
    private static final class Row {
        final int[] numbers = new int[PROCESSES];
        int size;

        void append(int number) {
            if (size < PROCESSES) {
                numbers[size] = number;
                size++;
            }
        }

        int at(int i) {
            return i < 0 || i >= size ? NOBODY : numbers[i];
        }

        int takeFirst() {
            int first = at(0);
            drop(first);
            return first;
        }

        void drop(int number) {
            int kept = 0;
            for (int i = 0; i < size; i++) {
                if (numbers[i] != number) {
                    numbers[kept] = numbers[i];
                    kept++;
                }
            }
            size = kept;
        }
    }

    /** The bytes on their way through a pipe, in a ring. */
    private static final class Pipe {
        final int[] bytes = new int[PIPE_BYTES];
        int first;
        int count;

        boolean isEmpty() {
            return count == 0;
        }

        boolean isFull() {
            return count >= PIPE_BYTES;
        }

        void put(int b) {
            if (!isFull()) {
                bytes[(first + count) % PIPE_BYTES] = b;
                count++;
            }
        }

        int take() {
            if (isEmpty()) {
                return REFUSED;
            }
            int b = bytes[first];
            first = (first + 1) % PIPE_BYTES;
            count--;
            return b;
        }

        void empty() {
            first = 0;
            count = 0;
        }
    }

    /** The frames, and which of them lies under which page. */
    private static final class Memory {
        final int[] words;
        final boolean[] used;
        int unused;

        Memory(int frames) {
            words = new int[frames * PAGE_WORDS];
            used = new boolean[frames];
            unused = frames;
        }

        /** Whoever calls this has seen that so many frames are unused and so many pages fit. */
        void give(Task task, int more) {
            int given = 0;
            for (int frame = 0; frame < used.length && given < more && task.pageCount < PAGES; frame++) {
                if (!used[frame]) {
                    used[frame] = true;
                    unused--;
                    clear(frame);
                    task.frames[task.pageCount] = frame;
                    task.pageCount++;
                    given++;
                }
            }
        }

        void takeBack(Task task) {
            for (int page = 0; page < task.pageCount; page++) {
                used[task.frames[page]] = false;
                unused++;
            }
            task.pageCount = 0;
        }

        void copyPages(Task from, Task to) {
            for (int page = 0; page < from.pageCount && page < to.pageCount; page++) {
                int source = from.frames[page] * PAGE_WORDS;
                int target = to.frames[page] * PAGE_WORDS;
                System.arraycopy(words, source, words, target, PAGE_WORDS);
            }
        }

        void copyProgram(Task task, int[] program, int length) {
            for (int i = 0; i < length; i++) {
                int place = placeOf(task, 4 * i);
                if (place != NONE) {
                    words[place] = program[i];
                }
            }
        }

        /** Where the word around a byte address of the process lies; NONE when it is not there. */
        int placeOf(Task task, int address) {
            int page = address >>> 6;
            if (page >= task.pageCount) {
                return NONE;
            }
            return task.frames[page] * PAGE_WORDS + ((address >>> 2) & (PAGE_WORDS - 1));
        }

        private void clear(int frame) {
            int start = frame * PAGE_WORDS;
            for (int i = 0; i < PAGE_WORDS; i++) {
                words[start + i] = 0;
            }
        }
    }

    /** Makes single instructions; each method answers DONE, CALLED or a fault. */
    private static final class Machine {
        static int execute(Memory memory, Task task) {
            int place = memory.placeOf(task, task.counter);
            if (place == NONE) {
                return FETCH_FAULT;
            }
            int w = memory.words[place];
            switch (w & 127) {
                case 55:
                    return setAndGo(task, w, upperNumber(w));
                case 23:
                    return setAndGo(task, w, task.counter + upperNumber(w));
                case 111:
                    return jump(task, w, task.counter + jumpNumber(w));
                case 103:
                    return jumpByRegister(task, w);
                case 99:
                    return branch(task, w);
                case 3:
                    return fetch(memory, task, w);
                case 35:
                    return put(memory, task, w);
                case 19:
                    return computeWithNumber(task, w);
                case 51:
                    return computeWithRegister(task, w);
                case 15:
                    return selector(w) == 0 ? go(task) : WORD_FAULT;
                case 115:
                    return special(w);
                default:
                    return WORD_FAULT;
            }
        }

        private static int special(int w) {
            if (w == CALL_WORD) {
                return CALLED;
            }
            return w == BREAK_WORD ? BREAK_FAULT : WORD_FAULT;
        }

        private static int go(Task task) {
            task.counter += 4;
            return DONE;
        }

        private static int setAndGo(Task task, int w, int value) {
            task.setRegister((w >>> 7) & 31, value);
            return go(task);
        }

        private static int jump(Task task, int w, int target) {
            if ((target & 3) != 0) {
                return JUMP_FAULT;
            }
            task.setRegister((w >>> 7) & 31, task.counter + 4);
            task.counter = target;
            return DONE;
        }

        private static int jumpByRegister(Task task, int w) {
            if (selector(w) != 0) {
                return WORD_FAULT;
            }
            return jump(task, w, (first(task, w) + shortNumber(w)) & ~1);
        }

        private static int branch(Task task, int w) {
            int condition = selector(w);
            if (condition == 2 || condition == 3) {
                return WORD_FAULT;
            }
            if (!holdsTrue(condition, first(task, w), second(task, w))) {
                return go(task);
            }
            int target = task.counter + branchNumber(w);
            if ((target & 3) != 0) {
                return JUMP_FAULT;
            }
            task.counter = target;
            return DONE;
        }

        private static boolean holdsTrue(int condition, int s, int t) {
            switch (condition) {
                case 0:
                    return s == t;
                case 1:
                    return s != t;
                case 4:
                    return s < t;
                case 5:
                    return s >= t;
                case 6:
                    return isBelow(s, t);
                default:
                    return !isBelow(s, t);
            }
        }

        private static int fetch(Memory memory, Task task, int w) {
            int kind = selector(w);
            if (kind == 3 || kind > 5) {
                return WORD_FAULT;
            }
            int address = first(task, w) + shortNumber(w);
            if (isCrooked(address, kind & 3)) {
                return CROOKED_READ_FAULT;
            }
            int place = memory.placeOf(task, address);
            if (place == NONE) {
                return READ_FAULT;
            }
            return setAndGo(task, w, widen(kind, memory.words[place] >>> (8 * (address & 3))));
        }

        private static int widen(int kind, int bits) {
            switch (kind) {
                case 0:
                    return (bits << 24) >> 24;
                case 1:
                    return (bits << 16) >> 16;
                case 4:
                    return bits & 0xFF;
                case 5:
                    return bits & 0xFFFF;
                default:
                    return bits;
            }
        }

        private static int put(Memory memory, Task task, int w) {
            int kind = selector(w);
            if (kind > 2) {
                return WORD_FAULT;
            }
            int address = first(task, w) + putNumber(w);
            if (isCrooked(address, kind)) {
                return CROOKED_PUT_FAULT;
            }
            int place = memory.placeOf(task, address);
            if (place == NONE) {
                return PUT_FAULT;
            }
            int shift = 8 * (address & 3);
            int mask = maskOf(kind) << shift;
            memory.words[place] = (memory.words[place] & ~mask) | ((second(task, w) << shift) & mask);
            return go(task);
        }

        private static int maskOf(int kind) {
            if (kind == 0) {
                return 0xFF;
            }
            return kind == 1 ? 0xFFFF : -1;
        }

        private static boolean isCrooked(int address, int kind) {
            return (address & ((1 << kind) - 1)) != 0;
        }

        private static int computeWithNumber(Task task, int w) {
            int f = selector(w);
            int s = first(task, w);
            int number = shortNumber(w);
            if (f == 5 && variant(w) == 32) {
                return setAndGo(task, w, s >> (number & 31));
            }
            if ((f == 1 || f == 5) && variant(w) != 0) {
                return WORD_FAULT;
            }
            return setAndGo(task, w, compute(f, s, number));
        }

        private static int computeWithRegister(Task task, int w) {
            int f = selector(w);
            int s = first(task, w);
            int t = second(task, w);
            if (variant(w) == 0) {
                return setAndGo(task, w, compute(f, s, t));
            }
            if (variant(w) == 32 && f == 0) {
                return setAndGo(task, w, s - t);
            }
            if (variant(w) == 32 && f == 5) {
                return setAndGo(task, w, s >> (t & 31));
            }
            return WORD_FAULT;
        }

        private static int compute(int f, int a, int b) {
            switch (f) {
                case 0:
                    return a + b;
                case 1:
                    return a << (b & 31);
                case 2:
                    return a < b ? 1 : 0;
                case 3:
                    return isBelow(a, b) ? 1 : 0;
                case 4:
                    return a ^ b;
                case 5:
                    return a >>> (b & 31);
                case 6:
                    return a | b;
                default:
                    return a & b;
            }
        }

        private static boolean isBelow(int a, int b) {
            // With the sign bits turned over, numbers without sign stand in the order of those with it.
            return (a ^ SIGN_BIT) < (b ^ SIGN_BIT);
        }

        private static int first(Task task, int w) {
            return task.getRegister((w >>> 15) & 31);
        }

        private static int second(Task task, int w) {
            return task.getRegister((w >>> 20) & 31);
        }

        private static int selector(int w) {
            return (w >>> 12) & 7;
        }

        private static int variant(int w) {
            return w >>> 25;
        }

        private static int shortNumber(int w) {
            return w >> 20;
        }

        private static int putNumber(int w) {
            return ((w >> 25) << 5) | ((w >>> 7) & 31);
        }

        private static int branchNumber(int w) {
            int high = ((w >> 31) << 12) | (((w >>> 7) & 1) << 11);
            return high | (((w >>> 25) & 63) << 5) | (((w >>> 8) & 15) << 1);
        }

        private static int jumpNumber(int w) {
            int high = ((w >> 31) << 20) | (w & 0xFF000);
            return high | (((w >>> 20) & 1) << 11) | (((w >>> 21) & 1023) << 1);
        }

        private static int upperNumber(int w) {
            return w & ~0xFFF;
        }
    }
}
