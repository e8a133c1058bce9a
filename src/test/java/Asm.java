/** Writes instruction words; the numbers are spread bit by bit, as the document lists the bits. */
final class Asm {
    static final int CALL = 115;
    static final int BREAK = 1048691;
    static final int NOTHING = 15;

    static final int YIELD = 0;
    static final int EXIT = 1;
    static final int OWN_NUMBER = 2;
    static final int FORK = 3;
    static final int WAIT = 4;
    static final int GROW = 5;
    static final int WRITE = 6;
    static final int READ = 7;
    static final int PIPE = 8;
    static final int CLOSE = 9;
    static final int DUP = 10;
    static final int KILL = 11;

    private static final int[] I_BITS = {31, 30, 29, 28, 27, 26, 25, 24, 23, 22, 21, 20};
    private static final int[] K_BITS = {31, 30, 29, 28, 27, 26, 25, 11, 10, 9, 8, 7};
    private static final int[] B_BITS = {31, 7, 30, 29, 28, 27, 26, 25, 11, 10, 9, 8};
    private static final int[] J_BITS = {31, 19, 18, 17, 16, 15, 14, 13, 12, 20,
        30, 29, 28, 27, 26, 25, 24, 23, 22, 21};

    private Asm() {
    }

    /** The bits named, the highest first, of a word that holds the number. */
    private static int spread(int[] bits, int number) {
        int word = 0;
        for (int i = 0; i < bits.length; i++) {
            if ((number >> (bits.length - 1 - i) & 1) == 1) {
                word |= 1 << bits[i];
            }
        }
        return word;
    }

    static int upper(int op, int d, int u) {
        return op | d << 7 | u & 0xFFFFF000;
    }

    static int jal(int d, int j) {
        return 111 | d << 7 | spread(J_BITS, j >> 1);
    }

    static int jalr(int d, int s, int i) {
        return withNumber(103, 0, d, s, i);
    }

    static int branch(int f, int s, int t, int b) {
        return 99 | f << 12 | s << 15 | t << 20 | spread(B_BITS, b >> 1);
    }

    static int read(int f, int d, int s, int i) {
        return withNumber(3, f, d, s, i);
    }

    static int put(int f, int t, int s, int k) {
        return 35 | f << 12 | s << 15 | t << 20 | spread(K_BITS, k);
    }

    static int number(int f, int d, int s, int i) {
        return withNumber(19, f, d, s, i);
    }

    static int shift(int f, int g, int d, int s, int by) {
        return 19 | d << 7 | f << 12 | s << 15 | by << 20 | g << 25;
    }

    static int registers(int f, int g, int d, int s, int t) {
        return 51 | d << 7 | f << 12 | s << 15 | t << 20 | g << 25;
    }

    private static int withNumber(int op, int f, int d, int s, int i) {
        return op | d << 7 | f << 12 | s << 15 | spread(I_BITS, i);
    }
}
