import java.util.Random;

/** Promise 4, and 12, 13 and 14 with it: what every instruction does. */
public final class InstructionTest {
    private static final Checks CHECKS = new Checks("instructions");
    private static final int[] VALUES = {0, 1, 2, -1, -2, 31, 32, 33, 2047, -2048, 0x80, 0xFF80, 0x7FFFFFFF,
        0x80000000, 0x80000001, 0x12345678, 0xFEDCBA98, 0x55555555};

    public static void main(String[] args) {
        upper();
        withRegisters();
        withNumbers();
        shiftsByNumber();
        noRegisterZero();
        jumps();
        jumpsByRegister();
        branches();
        branchDistances();
        reading();
        putting();
        farNumbers();
        nothing();
        CHECKS.finish();
    }

    /** x5 = s, x6 = t, then the instruction, which writes x7. */
    private static int result(int word, int s, int t) {
        Program program = new Program().set(5, s).set(6, t);
        int before = program.here();
        PagedKernel kernel = program.add(word).ran(9, program.size());
        CHECKS.due("pc after " + word, kernel.pc(1), before + 4);
        return kernel.register(1, 7);
    }

    private static void upper() {
        int[] numbers = {0, 0x1000, 0x80000000, 0xFFFFF000, 0x12345000, 0x7FFFF000};
        for (int u : numbers) {
            PagedKernel kernel = new Program().nothing(3).add(Asm.upper(55, 7, u), Asm.upper(23, 8, u)).ran(4, 5);
            CHECKS.due("55 with " + u, kernel.register(1, 7), u);
            CHECKS.due("23 with " + u, kernel.register(1, 8), u + 16);
            CHECKS.due("pc", kernel.pc(1), 20);
        }
    }

    private static int computed(int f, int s, int t) {
        switch (f) {
            case 0: return s + t;
            case 1: return s << (t & 31);
            case 2: return s < t ? 1 : 0;
            case 3: return Integer.compareUnsigned(s, t) < 0 ? 1 : 0;
            case 4: return s ^ t;
            case 5: return s >>> (t & 31);
            case 6: return s | t;
            default: return s & t;
        }
    }

    private static void withRegisters() {
        for (int s : VALUES) {
            for (int t : VALUES) {
                for (int f = 0; f < 8; f++) {
                    CHECKS.due("51 f " + f + " of " + s + " and " + t,
                        result(Asm.registers(f, 0, 7, 5, 6), s, t), computed(f, s, t));
                }
                CHECKS.due("51 minus of " + s + " and " + t, result(Asm.registers(0, 32, 7, 5, 6), s, t), s - t);
                CHECKS.due("51 signed shift of " + s + " by " + t,
                    result(Asm.registers(5, 32, 7, 5, 6), s, t), s >> (t & 31));
            }
        }
    }

    private static void withNumbers() {
        int[] numbers = {0, 1, -1, 5, 31, 32, 1024, 2047, -2048, -5};
        int[] kinds = {0, 2, 3, 4, 6, 7};
        for (int s : VALUES) {
            for (int i : numbers) {
                for (int f : kinds) {
                    CHECKS.due("19 f " + f + " of " + s + " and " + i,
                        result(Asm.number(f, 7, 5, i), s, 0), computed(f, s, i));
                }
            }
        }
    }

    private static void shiftsByNumber() {
        for (int s : VALUES) {
            for (int by = 0; by < 32; by++) {
                CHECKS.due(s + " left by " + by, result(Asm.shift(1, 0, 7, 5, by), s, 0), s << by);
                CHECKS.due(s + " right by " + by, result(Asm.shift(5, 0, 7, 5, by), s, 0), s >>> by);
                CHECKS.due(s + " right with sign by " + by, result(Asm.shift(5, 32, 7, 5, by), s, 0), s >> by);
            }
        }
    }

    private static void noRegisterZero() {
        PagedKernel kernel = new Program().set(0, 5).add(Asm.upper(55, 0, 0x1000), Asm.upper(23, 0, 0x1000),
            Asm.read(2, 0, 0, 0), Asm.jal(0, 4), Asm.registers(0, 0, 0, 2, 2), Asm.registers(0, 0, 7, 0, 0)).ran(4, 7);
        CHECKS.due("x0", kernel.register(1, 0), 0);
        CHECKS.due("x0 as it is read", kernel.register(1, 7), 0);
        CHECKS.due("pc", kernel.pc(1), 28);
        PagedKernel jump = new Program().set(5, 12).add(Asm.jalr(0, 5, 0)).ran(4, 2);
        CHECKS.due("x0 after a jump", jump.register(1, 0), 0);
        CHECKS.due("the jump", jump.pc(1), 12);
        for (int d = 1; d < 32; d++) {
            PagedKernel each = new Program().add(Asm.number(0, d, 0, 99 + d), Asm.registers(0, 0, 32 - d, d, d)).ran(4, 2);
            CHECKS.due("x" + (32 - d), each.register(1, 32 - d), 2 * (99 + d));
        }
    }

    private static void jumps() {
        int[] distances = {4, 8, 0, -4, 1048572, -1048576, 2048, 4096, 0x555 * 4, -0x555 * 4, 524288};
        for (int j : distances) {
            PagedKernel kernel = new Program().nothing(5).add(Asm.jal(1, j)).ran(9, 6);
            CHECKS.due("111 by " + j, kernel.pc(1), 20 + j);
            CHECKS.due("x1", kernel.register(1, 1), 24);
            CHECKS.due("it is ready yet", kernel.stateOf(1), 1);
        }
    }

    private static void jumpsByRegister() {
        PagedKernel kernel = new Program().set(5, 101).nothing(1).add(Asm.jalr(5, 5, -60)).ran(9, 3);
        CHECKS.due("103 makes the lowest bit 0", kernel.pc(1), 40);
        CHECKS.due("S is read before d is set", kernel.register(1, 5), 12);
        PagedKernel far = new Program().set(5, 0x7FFFFFFC).add(Asm.jalr(1, 5, 8)).ran(9, 3);
        CHECKS.due("the sum wraps", far.pc(1), 0x80000004);
        CHECKS.due("x1", far.register(1, 1), 12);
        PagedKernel low = new Program().add(Asm.jalr(1, 0, -2048)).ran(9, 1);
        CHECKS.due("below 0", low.pc(1), -2048);
    }

    private static boolean holds(int f, int s, int t) {
        switch (f) {
            case 0: return s == t;
            case 1: return s != t;
            case 4: return s < t;
            case 5: return s >= t;
            case 6: return Integer.compareUnsigned(s, t) < 0;
            default: return Integer.compareUnsigned(s, t) >= 0;
        }
    }

    private static void branches() {
        int[] kinds = {0, 1, 4, 5, 6, 7};
        for (int s : VALUES) {
            for (int t : VALUES) {
                for (int f : kinds) {
                    Program program = new Program().set(5, s).set(6, t);
                    int at = program.here();
                    PagedKernel kernel = program.add(Asm.branch(f, 5, 6, 20)).ran(9, program.size());
                    CHECKS.due("99 f " + f + " of " + s + " and " + t, kernel.pc(1), at + (holds(f, s, t) ? 20 : 4));
                }
            }
        }
    }

    private static void branchDistances() {
        int[] distances = {4, 8, 0, -4, -20, 4092, -4096, 2048, -2048, 32, 1024, 0x555 * 2 + 2, -0x554 * 2};
        for (int b : distances) {
            PagedKernel kernel = new Program().nothing(5).add(Asm.branch(0, 3, 4, b)).ran(9, 6);
            CHECKS.due("99 by " + b, kernel.pc(1), 20 + b);
            PagedKernel not = new Program().nothing(5).add(Asm.branch(1, 3, 4, b)).ran(9, 6);
            CHECKS.due("99 not by " + b, not.pc(1), 24);
        }
    }

    private static PagedKernel read(int f, int address, int data) {
        Program program = new Program().set(5, address);
        int at = program.here();
        program.add(Asm.read(f, 7, 5, 3), Asm.NOTHING);
        while (program.size() < 8) {
            program.add(0);
        }
        program.add(data, ~data);
        PagedKernel kernel = program.ran(9, at / 4 + 1);
        CHECKS.due("pc after reading", kernel.pc(1), at + 4);
        return kernel;
    }

    private static void reading() {
        int[] data = {0x8899AABB, 0x01234567, 0x7F80FF00, 0x80000000};
        for (int w : data) {
            for (int n = 0; n < 8; n++) {
                int bits = n < 4 ? w >>> 8 * n : ~w >>> 8 * (n - 4);
                CHECKS.due("byte " + n, read(0, 29 + n, w).register(1, 7), (byte) bits);
                CHECKS.due("byte without sign " + n, read(4, 29 + n, w).register(1, 7), bits & 255);
            }
            for (int n = 0; n < 8; n += 2) {
                int bits = n < 4 ? w >>> 8 * n : ~w >>> 8 * (n - 4);
                CHECKS.due("half " + n, read(1, 29 + n, w).register(1, 7), (short) bits);
                CHECKS.due("half without sign " + n, read(5, 29 + n, w).register(1, 7), bits & 0xFFFF);
            }
            CHECKS.due("word", read(2, 29, w).register(1, 7), w);
            CHECKS.due("word behind it", read(2, 33, w).register(1, 7), ~w);
        }
    }

    private static int put(int f, int address, int value) {
        Program program = new Program().set(5, 0x11223344).set(6, value).set(8, address + 7);
        program.add(Asm.put(2, 5, 0, 100), Asm.put(f, 6, 8, -7));
        PagedKernel kernel = program.ran(9, program.size());
        CHECKS.due("pc after putting", kernel.pc(1), program.here());
        CHECKS.due("the word before", kernel.word(1, 96), 0);
        CHECKS.due("the word behind", kernel.word(1, 104), 0);
        return kernel.word(1, 100);
    }

    private static void putting() {
        int[] values = {0xAABBCCDD, 0, -1, 0x7F};
        for (int v : values) {
            for (int n = 0; n < 4; n++) {
                int mask = 255 << 8 * n;
                CHECKS.due("byte " + n, put(0, 100 + n, v), 0x11223344 & ~mask | v << 8 * n & mask);
            }
            for (int n = 0; n < 4; n += 2) {
                int mask = 0xFFFF << 8 * n;
                CHECKS.due("half " + n, put(1, 100 + n, v), 0x11223344 & ~mask | v << 8 * n & mask);
            }
            CHECKS.due("word", put(2, 100, v), v);
        }
    }

    /** The numbers of reading and putting over their whole width, and both ends of the pages. */
    private static void farNumbers() {
        Random random = new Random(7);
        for (int i = 0; i < 200; i++) {
            int number = i == 0 ? -2048 : i == 1 ? 2047 : random.nextInt(4096) - 2048;
            int address = 64 + 4 * random.nextInt(16);
            Program program = new Program().set(5, address - number).set(6, 1000 + i);
            program.add(Asm.put(2, 6, 5, number), Asm.read(2, 7, 5, number));
            PagedKernel kernel = program.ran(9, program.size());
            CHECKS.due("put by " + number, kernel.word(1, address), 1000 + i);
            CHECKS.due("read by " + number, kernel.register(1, 7), 1000 + i);
        }
        PagedKernel ends = new Program().set(6, -3).add(Asm.put(0, 6, 0, 127), Asm.put(2, 6, 0, 60),
            Asm.put(0, 6, 0, 64), Asm.read(4, 7, 0, 127), Asm.read(4, 8, 0, 0)).ran(9, 6);
        CHECKS.due("last byte", ends.word(1, 124), 0xFD000000);
        CHECKS.due("last word of page 0", ends.word(1, 60), -3);
        CHECKS.due("first byte of page 1", ends.word(1, 64), 0xFD);
        CHECKS.due("reading the last byte", ends.register(1, 7), 0xFD);
        CHECKS.due("reading the first byte", ends.register(1, 8), Asm.number(0, 6, 0, -3) & 255);
    }

    private static void nothing() {
        int[] words = {15, 0xFFFF8F8F, 0x0FF0000F, 15 | 31 << 7 | 31 << 15};
        for (int w : words) {
            PagedKernel kernel = new Program().add(w).ran(9, 1);
            CHECKS.due("15: pc", kernel.pc(1), 4);
            for (int k = 0; k < 32; k++) {
                CHECKS.due("15: x" + k, kernel.register(1, k), k == 2 ? 128 : 0);
            }
        }
        PagedKernel own = new Program().set(5, Asm.number(0, 7, 0, 3)).add(Asm.put(2, 5, 0, 12), 0).ran(9, 4);
        CHECKS.due("what is put is executed", own.register(1, 7), 3);
    }
}
