/** The terms INSTRUCTIONS and FAULTS: each sentence that names an edge, by itself. */
public final class InstructionEdgeTest {
    private static final Checks CHECKS = new Checks("edges of the instructions");
    private static final int NONE = PagedKernel.NONE;
    private static final int LEAST = Integer.MIN_VALUE;
    private static final int MOST = Integer.MAX_VALUE;
    private static final String OTHERS = "All other words: fault 2: ";

    public static void main(String[] args) {
        fields();
        numbers();
        sumsWrap();
        op55And23();
        op111();
        op103();
        op99();
        op3();
        op35();
        op19();
        shiftsBy19();
        op51();
        op15();
        op115();
        otherWords();
        fault1();
        fault0();
        fault4();
        fault6();
        fault5And7();
        faultOrder();
        nothingElse();
        CHECKS.finish();
    }

    /** x5 = s and x6 = t, then the word, after which all is looked at. */
    private static PagedKernel after(int word, int s, int t) {
        Program program = new Program().set(5, s).set(6, t).add(word);
        return program.ran(9, program.size());
    }

    /** What x7 is after the word. */
    private static int x7(int word, int s, int t) {
        PagedKernel kernel = after(word, s, t);
        CHECKS.due("no fault", kernel.stateOf(1), 1);
        return kernel.register(1, 7);
    }

    private static int exit(int word) {
        return after(word, 0, 0).exitOf(1);
    }

    private static void fields() {
        CHECKS.sentence("Its fields: op bits 0 .. 6, d 7 .. 11, f 12 .. 14, s 15 .. 19, t 20 .. 24, g 25 .. 31");
        for (int k = 1; k < 32; k++) {
            Program program = new Program().set(k, 3).add(Asm.registers(0, 0, k, k, k), Asm.registers(0, 32, k, 0, k));
            PagedKernel kernel = program.ran(9, program.size());
            CHECKS.due("x" + k + " as d, s and t", kernel.register(1, k), -6);
        }
    }

    private static void numbers() {
        CHECKS.sentence("Numbers in it, with sign, the highest bit first: I bits 31 .. 20");
        for (int i : new int[] {0, 1, 2047, -2048, -1, 1024, -1024, 0x555, -0x556}) {
            CHECKS.due("I " + i, x7(Asm.number(0, 7, 0, i), 0, 0), i);
        }

        CHECKS.sentence("K bits 31 .. 25 and 11 .. 7");
        for (int k : new int[] {0, 1, 31, 32, 2047, -2048, -1, -32, -33, 1024, 0x555, -0x556}) {
            PagedKernel kernel = after(Asm.put(0, 6, 5, k), 100 - k, 0x5A);
            CHECKS.due("K " + k, kernel.word(1, 100), 0x5A);
        }

        CHECKS.sentence("B bits 31, 7, 30 .. 25, 11 .. 8 and a 0");
        for (int b : new int[] {0, 4, 16, 28, 32, 1024, 2044, 2048, 4092, -4, -2048, -2052, -4096}) {
            CHECKS.due("B " + b, after(Asm.branch(0, 0, 0, b), 0, 0).pc(1), 8 + b);
        }

        CHECKS.sentence("J bits 31, 19 .. 12, 20, 30 .. 21 and a 0");
        for (int j : new int[] {0, 4, 1024, 2044, 2048, 4092, 4096, 524288, 1048572, -4, -2048, -2052, -4096, -524288,
            -1048576}) {
            CHECKS.due("J " + j, after(Asm.jal(0, j), 0, 0).pc(1), 8 + j);
        }

        CHECKS.sentence("U is w with its bits 0 .. 11 made 0");
        for (int d = 1; d < 32; d += 6) {
            CHECKS.due("U for d " + d, after(Asm.upper(55, d, -1), 0, 0).register(1, d), -4096);
            CHECKS.due("U least for d " + d, after(Asm.upper(55, d, LEAST), 0, 0).register(1, d), LEAST);
        }
    }

    private static void sumsWrap() {
        CHECKS.sentence("Sums wrap");
        CHECKS.due("S + I above", x7(Asm.number(0, 7, 5, 1), MOST, 0), LEAST);
        CHECKS.due("S + I below", x7(Asm.number(0, 7, 5, -1), LEAST, 0), MOST);
        CHECKS.due("S + T", x7(Asm.registers(0, 0, 7, 5, 6), LEAST, LEAST), 0);
        CHECKS.due("S - T", x7(Asm.registers(0, 32, 7, 5, 6), LEAST, 1), MOST);
        CHECKS.due("0 - T", x7(Asm.registers(0, 32, 7, 5, 6), 0, LEAST), LEAST);
        CHECKS.due("PC + U", x7(Asm.upper(23, 7, 0xFFFFF000), 0, 0), 8 - 4096);
        CHECKS.due("reading at S + I", x7(Asm.read(2, 7, 5, 4), -4, 0), Asm.number(0, 5, 0, -4));
        CHECKS.due("putting at S + K", after(Asm.put(2, 6, 5, 104), -4, 77).word(1, 100), 77);
        CHECKS.due("going to S + I", after(Asm.jalr(0, 5, 104), -4, 0).pc(1), 100);
        CHECKS.due("going to PC + J", after(Asm.jal(0, -12), 0, 0).pc(1), -4);
        CHECKS.due("going to PC + B", after(Asm.branch(0, 0, 0, -12), 0, 0).pc(1), -4);
    }

    private static void op55And23() {
        CHECKS.sentence("op 55: d = U.   23: d = PC + U");
        for (int u : new int[] {0, 0x1000, LEAST, 0xFFFFF000, 0x7FFFF000}) {
            CHECKS.due("55 with " + u, x7(Asm.upper(55, 7, u), 0, 0), u);
            CHECKS.due("23 with " + u, x7(Asm.upper(23, 7, u), 0, 0), u + 8);
        }
    }

    private static void op111() {
        CHECKS.sentence("111: d = PC + 4, and the PC becomes PC + J");
        PagedKernel kernel = after(Asm.jal(7, 40), 0, 0);
        CHECKS.due("d", kernel.register(1, 7), 12);
        CHECKS.due("pc", kernel.pc(1), 48);
        kernel = after(Asm.jal(7, 0), 0, 0);
        CHECKS.due("d, to itself", kernel.register(1, 7), 12);
        CHECKS.due("pc, to itself", kernel.pc(1), 8);
    }

    private static void op103() {
        CHECKS.sentence("103, f 0: the PC becomes S + I with its lowest bit made 0, and d = the old PC + 4");
        int[] sums = {40, 41, 0, 1, -4, -3, 128, LEAST, LEAST + 1, MOST - 2};
        for (int sum : sums) {
            Program program = new Program().set(5, sum - 9);
            int at = program.here();
            PagedKernel kernel = program.add(Asm.jalr(7, 5, 9)).ran(9, program.size());
            CHECKS.due("pc for " + sum, kernel.pc(1), sum & ~1);
            CHECKS.due("d for " + sum, kernel.register(1, 7), at + 4);
        }
        PagedKernel same = after(Asm.jalr(5, 5, 0), 40, 0);
        CHECKS.due("S is what it was before", same.pc(1), 40);
        CHECKS.due("and d is set", same.register(1, 5), 12);
        CHECKS.sentence(OTHERS + "103 with another f");
        for (int f = 1; f < 8; f++) {
            CHECKS.due("f " + f, exit(Asm.jalr(7, 5, 0) | f << 12), 130);
        }
    }

    private static void dueBranch(int f, int s, int t, boolean taken) {
        Program program = new Program().set(5, s).set(6, t);
        int at = program.here();
        PagedKernel kernel = program.add(Asm.branch(f, 5, 6, 20)).ran(9, program.size());
        CHECKS.due("f " + f + " of " + s + " and " + t, kernel.pc(1), at + (taken ? 20 : 4));
    }

    private static void op99() {
        int[][] pairs = {{0, 0}, {0, 1}, {1, 0}, {-1, 0}, {0, -1}, {-1, -1}, {LEAST, MOST}, {MOST, LEAST}, {LEAST, LEAST},
            {-1, LEAST}, {LEAST, -1}, {MOST, -1}, {-1, MOST}, {-2, -1}, {-1, -2}, {0, LEAST}, {LEAST, 0}};
        String[] words = {"0, S = T", "1, they differ", "", "", "4, S less than T", "5, not less",
            "6, less as numbers without sign", "7, not less so"};
        for (int f = 0; f < 8; f++) {
            if (!words[f].isEmpty()) {
                CHECKS.sentence("99: if, for f = " + words[f] + ": the PC becomes PC + B");
                for (int[] pair : pairs) {
                    boolean equal = pair[0] == pair[1];
                    boolean less = f < 6 ? pair[0] < pair[1] : Integer.compareUnsigned(pair[0], pair[1]) < 0;
                    dueBranch(f, pair[0], pair[1], f < 2 ? equal == (f == 0) : less == (f % 2 == 0));
                }
            }
        }
        CHECKS.sentence(OTHERS + "99 with f 2 or 3");
        for (int f = 2; f < 4; f++) {
            CHECKS.due("f " + f, exit(Asm.branch(f, 5, 6, 8)), 130);
            CHECKS.due("f " + f + " and they differ", after(Asm.branch(f, 5, 6, 8), 1, 2).exitOf(1), 130);
        }
    }

    /** Puts a word at 100 and reads it there. */
    private static int readAt(int f, int address, int data) {
        Program program = new Program().set(6, data).add(Asm.put(2, 6, 0, 100), Asm.read(f, 7, 0, address));
        return program.ran(9, program.size()).register(1, 7);
    }

    private static void op3() {
        CHECKS.sentence("3: d = what is at the address S + I: f 0 a byte, 1 a HALF of two bytes, 2 a word, with sign");
        int[] bytes = {0, 1, 0x7F, 0x80, 0xFF};
        for (int b : bytes) {
            for (int n = 0; n < 4; n++) {
                CHECKS.due("byte " + b + " at " + n, readAt(0, 100 + n, b << 8 * n), (byte) b);
            }
        }
        int[] halves = {0, 1, 0xFF, 0x7FFF, 0x8000, 0xFFFF};
        for (int h : halves) {
            CHECKS.due("half " + h, readAt(1, 100, h), (short) h);
            CHECKS.due("upper half " + h, readAt(1, 102, h << 16), (short) h);
        }
        for (int w : new int[] {0, 1, -1, LEAST, MOST}) {
            CHECKS.due("word " + w, readAt(2, 100, w), w);
        }

        CHECKS.sentence("3: .. 4 a byte, 5 a half without sign");
        for (int b : bytes) {
            for (int n = 0; n < 4; n++) {
                CHECKS.due("byte " + b + " at " + n, readAt(4, 100 + n, b << 8 * n), b);
            }
        }
        for (int h : halves) {
            CHECKS.due("half " + h, readAt(5, 100, h), h);
            CHECKS.due("upper half " + h, readAt(5, 102, h << 16), h);
        }
        CHECKS.sentence(OTHERS + "3 with f 3, 6 or 7");
        for (int f : new int[] {3, 6, 7}) {
            CHECKS.due("f " + f, exit(Asm.read(f, 7, 0, 64)), 130);
        }
    }

    private static void op35() {
        CHECKS.sentence("35: the lowest byte of T (f 0), half (1), or T (2) is put at the address S + K");
        int[] masks = {0xFF, 0xFFFF, -1};
        for (int t : new int[] {0x12345678, -1, 0, LEAST, 0x80, 0x8000}) {
            for (int f = 0; f < 3; f++) {
                for (int n = 0; n < 4; n += 1 << f) {
                    Program program = new Program().set(6, t).set(8, 0x0F1E2D3C);
                    program.add(Asm.put(2, 8, 0, 96), Asm.put(2, 8, 0, 100), Asm.put(2, 8, 0, 104), Asm.put(f, 6, 0, 100 + n));
                    PagedKernel kernel = program.ran(9, program.size());
                    int mask = masks[f] << 8 * n;
                    CHECKS.due("f " + f + " at " + n + " of " + t, kernel.word(1, 100), 0x0F1E2D3C & ~mask | t << 8 * n & mask);
                    CHECKS.due("before it", kernel.word(1, 96), 0x0F1E2D3C);
                    CHECKS.due("behind it", kernel.word(1, 104), 0x0F1E2D3C);
                }
            }
        }
        CHECKS.sentence(OTHERS + "35 with f 3 to 7");
        for (int f = 3; f < 8; f++) {
            CHECKS.due("f " + f, exit(Asm.put(f, 6, 0, 64)), 130);
        }
    }

    private static void op19() {
        CHECKS.sentence("19: d = S and I by f: 0 the sum; 2: 1 if S is less than I, else 0; 3: likewise without sign");
        int[][] less = {{-1, 0}, {0, 0}, {1, 0}, {LEAST, -2048}, {-2048, -2048}, {-2049, -2048}, {MOST, 2047}, {2047, 2047},
            {2046, 2047}, {-1, -1}, {-2, -1}, {0, -1}, {MOST, -1}, {0, 1}, {LEAST, 2047}, {LEAST, 0}};
        for (int[] pair : less) {
            CHECKS.due(pair[0] + " less than " + pair[1], x7(Asm.number(2, 7, 5, pair[1]), pair[0], 0),
                pair[0] < pair[1] ? 1 : 0);
            CHECKS.due(pair[0] + " less without sign than " + pair[1], x7(Asm.number(3, 7, 5, pair[1]), pair[0], 0),
                Integer.compareUnsigned(pair[0], pair[1]) < 0 ? 1 : 0);
        }

        CHECKS.sentence("19: .. 4 XOR; 6 OR; 7 AND: with I, which has a sign");
        CHECKS.due("XOR -1", x7(Asm.number(4, 7, 5, -1), 0x0F0F0F0F, 0), 0xF0F0F0F0);
        CHECKS.due("OR -2048", x7(Asm.number(6, 7, 5, -2048), 0x0F, 0), -2048 + 15);
        CHECKS.due("AND -2048", x7(Asm.number(7, 7, 5, -2048), -1, 0), -2048);
        CHECKS.due("AND 2047", x7(Asm.number(7, 7, 5, 2047), -1, 0), 2047);
    }

    private static void shiftsBy19() {
        CHECKS.sentence("19: .. 1 (g must be 0): S shifted to the left by t");
        for (int by : new int[] {0, 1, 16, 31}) {
            CHECKS.due("by " + by, x7(Asm.shift(1, 0, 7, 5, by), 0x80000003, 0), 0x80000003 << by);
        }
        CHECKS.sentence(OTHERS + "19 with f 1 and g not 0");
        for (int g = 1; g < 128; g++) {
            CHECKS.due("g " + g, exit(Asm.shift(1, g, 7, 5, 1)), 130);
        }
        CHECKS.sentence("19: .. 5: S shifted to the right by t, with zeros for g = 0, with its sign for g = 32");
        for (int by : new int[] {0, 1, 16, 31}) {
            for (int s : new int[] {0x80000003, 0x7FFFFFFF, -1}) {
                CHECKS.due(s + " with zeros by " + by, x7(Asm.shift(5, 0, 7, 5, by), s, 0), s >>> by);
                CHECKS.due(s + " with its sign by " + by, x7(Asm.shift(5, 32, 7, 5, by), s, 0), s >> by);
            }
        }
        CHECKS.sentence(OTHERS + "19 with f 5 and g not 0 or 32");
        for (int g = 1; g < 128; g++) {
            CHECKS.due("g " + g, exit(Asm.shift(5, g, 7, 5, 1)), g == 32 ? NONE : 130);
        }
    }

    private static void op51() {
        CHECKS.sentence("51: likewise with T for I, g being 0");
        int[][] pairs = {{0, 0}, {-1, 0}, {0, -1}, {LEAST, MOST}, {MOST, LEAST}, {LEAST, LEAST}, {5, 5}, {-2, -1}};
        for (int[] p : pairs) {
            int s = p[0];
            int t = p[1];
            int[] kinds = {0, 2, 3, 4, 6, 7};
            int[] want = {s + t, s < t ? 1 : 0, Integer.compareUnsigned(s, t) < 0 ? 1 : 0, s ^ t, s | t, s & t};
            for (int i = 0; i < kinds.length; i++) {
                CHECKS.due("f " + kinds[i] + " of " + s + " and " + t, x7(Asm.registers(kinds[i], 0, 7, 5, 6), s, t), want[i]);
            }
        }

        CHECKS.sentence("51: .. shifts by the lowest five bits of T");
        for (int t : new int[] {0, 1, 31, 32, 33, 63, 64, -1, -32, LEAST, MOST}) {
            int s = 0x80000101;
            CHECKS.due("left by " + t, x7(Asm.registers(1, 0, 7, 5, 6), s, t), s << (t & 31));
            CHECKS.due("right by " + t, x7(Asm.registers(5, 0, 7, 5, 6), s, t), s >>> (t & 31));
            CHECKS.due("right with its sign by " + t, x7(Asm.registers(5, 32, 7, 5, 6), s, t), s >> (t & 31));
        }

        CHECKS.sentence("51: .. and with g = 32: f 0, S - T; f 5, the shift to the right with its sign");
        CHECKS.due("S - T", x7(Asm.registers(0, 32, 7, 5, 6), 3, 5), -2);
        CHECKS.due("S shifted", x7(Asm.registers(5, 32, 7, 5, 6), -8, 1), -4);
        CHECKS.sentence(OTHERS + "51 with g = 32 and another f, or another g");
        for (int g = 0; g < 128; g++) {
            for (int f = 0; f < 8; f++) {
                boolean known = g == 0 || g == 32 && (f == 0 || f == 5);
                CHECKS.due("g " + g + " f " + f, exit(Asm.registers(f, g, 7, 5, 6)), known ? NONE : 130);
            }
        }
    }

    private static void op15() {
        CHECKS.sentence("15, f 0: nothing");
        for (int rest : new int[] {0, 0xFFFF8F80, 7 << 7, 5 << 15, 0x0FF00000}) {
            PagedKernel kernel = after(Asm.NOTHING | rest, 11, 12);
            CHECKS.due("pc", kernel.pc(1), 12);
            for (int k = 0; k < 32; k++) {
                CHECKS.due("x" + k, kernel.register(1, k), k == 2 ? 128 : k == 5 ? 11 : k == 6 ? 12 : 0);
            }
        }
        CHECKS.sentence(OTHERS + "15 with another f");
        for (int f = 1; f < 8; f++) {
            CHECKS.due("f " + f, exit(Asm.NOTHING | f << 12), 130);
        }
    }

    private static void op115() {
        CHECKS.sentence("115: only w = 115, a CALL, and w = 1048691, fault 3");
        PagedKernel kernel = new Program().set(17, Asm.OWN_NUMBER).add(115).ran(9, 2);
        CHECKS.due("a call", kernel.register(1, 10), 1);
        CHECKS.due("fault 3", exit(1048691), 131);
        CHECKS.sentence(OTHERS + "115 with any other bits");
        for (int bit = 7; bit < 32; bit++) {
            if (bit != 20) {
                CHECKS.due("115 and bit " + bit, exit(115 | 1 << bit), 130);
                CHECKS.due("1048691 and bit " + bit, exit(1048691 | 1 << bit), 130);
            }
        }
        CHECKS.due("all bits", exit(115 | 0xFFFFFF80), 130);
    }

    private static void otherWords() {
        CHECKS.sentence(OTHERS + "with another op");
        boolean[] known = new boolean[128];
        for (int op : new int[] {55, 23, 111, 103, 99, 3, 35, 19, 51, 15, 115}) {
            known[op] = true;
        }
        for (int op = 0; op < 128; op++) {
            CHECKS.due("op " + op, exit(op) == 130, !known[op]);
            if (!known[op]) {
                CHECKS.due("op " + op + " and all other bits", exit(op | 0xFFFFFF80), 130);
            }
        }
    }

    /** Puts the word that does nothing at the end of the pages and goes there. */
    private static void fault1() {
        CHECKS.sentence("FAULTS end the process with the exit 128 + fault: 1 the PC's page is not there");
        PagedKernel kernel = new Program().set(6, Asm.NOTHING).add(Asm.put(2, 6, 0, 124), Asm.jal(0, 116)).booted(40, 9);
        kernel.run(4);
        CHECKS.due("the last word of the last page is there", kernel.pc(1), 128);
        CHECKS.due("it is ready behind it", kernel.stateOf(1), 1);
        CHECKS.due("the fault is a step of its own", kernel.step(), 1);
        CHECKS.due("exit", kernel.exitOf(1), 129);
        CHECKS.due("pc stays", kernel.pc(1), 128);
        for (int address : new int[] {128, 192, 512, -4, -64, LEAST, MOST - 3}) {
            Program program = new Program().set(8, address).add(Asm.jalr(0, 8, 0));
            PagedKernel far = program.ran(9, program.size());
            CHECKS.due("the jump to " + address + " is none", far.stateOf(1), 1);
            far.step();
            CHECKS.due("being there is one", far.exitOf(1), 129);
        }
        PagedKernel grown = new Program().call(Asm.GROW, 1).set(6, Asm.NOTHING).add(Asm.put(2, 6, 0, 128), Asm.jal(0, 108))
            .ran(9, 7);
        CHECKS.due("a page that was got is there", grown.pc(1), 132);
        CHECKS.due("and what is on it is done", grown.stateOf(1), 1);
    }

    private static void fault0() {
        CHECKS.sentence("0 the PC would become no multiple of 4");
        for (int j : new int[] {2, 6, -2, 1048574, -1048574}) {
            CHECKS.due("111 by " + j, exit(Asm.jal(7, j)), 128);
        }
        for (int b : new int[] {2, 6, -2, 4094, -4094}) {
            CHECKS.due("99 by " + b, exit(Asm.branch(0, 0, 0, b)), 128);
            CHECKS.due("99 by " + b + ", which is not taken", exit(Asm.branch(1, 0, 0, b)), NONE);
        }
        for (int i : new int[] {2, 3, -1, -2, 42, 43, 2047}) {
            CHECKS.due("103 to " + i, exit(Asm.jalr(7, 0, i)), 128);
        }
        CHECKS.due("103 to 41 is 40", exit(Asm.jalr(7, 0, 41)), NONE);
        CHECKS.due("though its page is not there", after(Asm.jalr(7, 5, 0), LEAST + 2, 0).exitOf(1), 128);
    }

    private static void fault4() {
        CHECKS.sentence("4 (reading): a half's address is odd, or a word's no multiple of 4");
        for (int n = 0; n < 4; n++) {
            CHECKS.due("byte at " + n, exit(Asm.read(0, 7, 0, 64 + n)), NONE);
            CHECKS.due("byte without sign at " + n, exit(Asm.read(4, 7, 0, 64 + n)), NONE);
            CHECKS.due("half at " + n, exit(Asm.read(1, 7, 0, 64 + n)), n % 2 == 0 ? NONE : 132);
            CHECKS.due("half without sign at " + n, exit(Asm.read(5, 7, 0, 64 + n)), n % 2 == 0 ? NONE : 132);
            CHECKS.due("word at " + n, exit(Asm.read(2, 7, 0, 64 + n)), n == 0 ? NONE : 132);
        }
        CHECKS.due("a half over two pages", exit(Asm.read(1, 7, 0, 63)), 132);
        CHECKS.due("a word over two pages", exit(Asm.read(2, 7, 0, 62)), 132);
    }

    private static void fault6() {
        CHECKS.sentence("6 (putting): a half's address is odd, or a word's no multiple of 4");
        for (int n = 0; n < 4; n++) {
            CHECKS.due("byte at " + n, exit(Asm.put(0, 6, 0, 64 + n)), NONE);
            CHECKS.due("half at " + n, exit(Asm.put(1, 6, 0, 64 + n)), n % 2 == 0 ? NONE : 134);
            CHECKS.due("word at " + n, exit(Asm.put(2, 6, 0, 64 + n)), n == 0 ? NONE : 134);
        }
        CHECKS.due("a half over two pages", exit(Asm.put(1, 6, 0, 63)), 134);
        CHECKS.due("a word over two pages", exit(Asm.put(2, 6, 0, 62)), 134);
    }

    private static void fault5And7() {
        int[] outside = {128, 512, -4, -128, LEAST, MOST - 3};
        CHECKS.sentence("5 (reading): else, the address is not there");
        for (int f : new int[] {0, 1, 2, 4, 5}) {
            for (int address : outside) {
                CHECKS.due("f " + f + " at " + address, after(Asm.read(f, 7, 5, 0), address, 0).exitOf(1), 133);
            }
            int last = 127 >> f % 4 << f % 4;
            CHECKS.due("f " + f + " at the last", exit(Asm.read(f, 7, 0, last)), NONE);
            CHECKS.due("f " + f + " into x0", exit(Asm.read(f, 0, 0, 128)), 133);
        }
        CHECKS.sentence("7 (putting): else, the address is not there");
        for (int f = 0; f < 3; f++) {
            for (int address : outside) {
                CHECKS.due("f " + f + " at " + address, after(Asm.put(f, 6, 5, 0), address, 0).exitOf(1), 135);
            }
            CHECKS.due("f " + f + " at the last", exit(Asm.put(f, 6, 0, 127 >> f << f)), NONE);
        }
    }

    private static void faultOrder() {
        CHECKS.sentence("4, 6: ..; 5, 7: else: the one before the other");
        CHECKS.due("half at 129", exit(Asm.read(1, 7, 0, 129)), 132);
        CHECKS.due("half without sign at -1", exit(Asm.read(5, 7, 0, -1)), 132);
        CHECKS.due("word at 130", exit(Asm.read(2, 7, 0, 130)), 132);
        CHECKS.due("put half at 129", exit(Asm.put(1, 6, 0, 129)), 134);
        CHECKS.due("put word at -2", exit(Asm.put(2, 6, 0, -2)), 134);
        CHECKS.due("byte at 129", exit(Asm.read(0, 7, 0, 129)), 133);
        CHECKS.due("put byte at 129", exit(Asm.put(0, 6, 0, 129)), 135);
        CHECKS.due("a word of no kind at 129", exit(Asm.read(3, 7, 0, 129)), 130);
        CHECKS.due("put of no kind at 129", exit(Asm.put(7, 6, 0, 129)), 130);
    }

    private static void nothingElse() {
        CHECKS.sentence("FAULTS end the process .., nothing else being changed by the instruction");
        int[] words = {Asm.jal(7, 2), Asm.jalr(7, 0, 2), Asm.branch(0, 0, 0, 2), 0, Asm.BREAK, Asm.read(2, 7, 0, 1),
            Asm.read(0, 7, 0, 128),
            Asm.put(2, 7, 0, 1), Asm.put(0, 7, 0, 128), Asm.shift(1, 1, 7, 7, 1), Asm.registers(0, 1, 7, 7, 7)};
        int[] exits = {128, 128, 128, 130, 131, 132, 133, 134, 135, 130, 130};
        for (int i = 0; i < words.length; i++) {
            Program program = new Program().fork(new Program().stay()).call(Asm.WRITE, 1, 'e').set(7, 1234).set(17, 9)
                .add(words[i]);
            PagedKernel kernel = program.booted(12, 8);
            CHECKS.until("it comes to the word", kernel, () -> kernel.pc(1) == program.here() - 4 && kernel.current() == 1);
            int[] before = new int[32];
            for (int k = 0; k < 32; k++) {
                before[k] = kernel.register(1, k);
            }
            String other = Look.own(kernel, 2, false);
            CHECKS.due("step", kernel.step(), 1);
            CHECKS.due("exit of " + i, kernel.exitOf(1), exits[i]);
            CHECKS.due("pc of " + i, kernel.pc(1), program.here() - 4);
            for (int k = 0; k < 32; k++) {
                CHECKS.due("x" + k + " of " + i, kernel.register(1, k), before[k]);
            }
            CHECKS.dueText("the other", Look.own(kernel, 2, false), other);
            CHECKS.dueConsole("console", kernel, "e");
        }
    }
}
