import java.util.ArrayList;
import java.util.List;

/** A program that grows word by word. */
final class Program {
    private final List<Integer> words = new ArrayList<>();

    Program add(int... more) {
        for (int word : more) {
            words.add(word);
        }
        return this;
    }

    /** Register d gets a number, by one instruction if it is small, else by two. */
    Program set(int d, int value) {
        int low = value << 20 >> 20;
        if (low == value) {
            return add(Asm.number(0, d, 0, value));
        }
        return add(Asm.upper(55, d, value - low), Asm.number(0, d, d, low));
    }

    /** Two words: the call with what x10 and x11 hold. */
    Program call(int kind) {
        return set(17, kind).add(Asm.CALL);
    }

    /** Three words. */
    Program call(int kind, int a) {
        return set(10, a).call(kind);
    }

    /** Four words. */
    Program call(int kind, int a, int b) {
        return set(11, b).call(kind, a);
    }

    /** Keeps x10 in another register. */
    Program keep(int d) {
        return add(Asm.number(0, d, 10, 0));
    }

    Program nothing(int times) {
        for (int i = 0; i < times; i++) {
            add(Asm.NOTHING);
        }
        return this;
    }

    /** Stays at this place for ever. */
    Program stay() {
        return add(Asm.jal(0, 0));
    }

    /** A part whose jumps stay inside it. */
    Program part(Program other) {
        words.addAll(other.words);
        return this;
    }

    /** Only fit for parts whose jumps stay inside them. */
    void addTo(Program other) {
        other.part(this);
    }

    /** Three words, and the part with which the copy goes on; it must not run out at its end. */
    Program fork(Program copy) {
        return call(Asm.FORK).add(Asm.branch(1, 10, 0, 4 + 4 * copy.size())).part(copy);
    }

    /** Three words that take 1 + 2 * rounds steps, by x5. */
    Program delay(int rounds) {
        return set(5, rounds).add(Asm.number(0, 5, 5, -1), Asm.branch(1, 5, 0, -4));
    }

    int size() {
        return words.size();
    }

    /** Where the next word will stand. */
    int here() {
        return 4 * words.size();
    }

    /** A word that stands already is written anew: for jumps to places that come later. */
    Program mend(int address, int word) {
        words.set(address / 4, word);
        return this;
    }

    PagedKernel loaded(int frames, int quantum) {
        PagedKernel kernel = new PagedKernel(frames, quantum);
        for (int word : words) {
            if (!kernel.load(word)) {
                throw new IllegalStateException("a word is refused");
            }
        }
        return kernel;
    }

    PagedKernel booted(int frames, int quantum) {
        PagedKernel kernel = loaded(frames, quantum);
        if (kernel.boot() != 0) {
            throw new IllegalStateException("the boot is refused");
        }
        return kernel;
    }

    /** Booted with frames enough and run for so many steps, more than 100 too. */
    PagedKernel ran(int quantum, int steps) {
        PagedKernel kernel = booted(40, quantum);
        int left = steps;
        while (left > 0) {
            kernel.run(Math.min(left, 100));
            left -= 100;
        }
        return kernel;
    }
}
