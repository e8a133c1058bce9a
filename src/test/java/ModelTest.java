import java.util.Arrays;
import java.util.ArrayList;
import java.util.List;
import java.util.Random;

/** Random programs, made to fork, wait, write and die a lot, run on the program and on the model. */
public final class ModelTest {
    private static final Checks CHECKS = new Checks("model");
    private static final int RUNS = 6000;
    private static final int[] DATA = {5, 6, 7, 10, 11, 20};
    private static final int[] OFTEN = {Asm.YIELD, Asm.EXIT, Asm.OWN_NUMBER, Asm.FORK, Asm.FORK, Asm.FORK, Asm.WAIT, Asm.WAIT,
        Asm.GROW, Asm.WRITE, Asm.WRITE, Asm.WRITE, Asm.WRITE, Asm.WRITE, Asm.READ, Asm.READ, Asm.READ, Asm.PIPE, Asm.PIPE,
        Asm.CLOSE, Asm.CLOSE, Asm.DUP, Asm.KILL};

    public static void main(String[] args) {
        int[] seen = new int[6];
        for (int seed = 0; seed < RUNS; seed++) {
            oneRun(seed, seen);
        }
        for (int state = 1; state <= 5; state++) {
            CHECKS.due("runs come to the state " + state, seen[state] > RUNS / 50, true);
        }
        System.out.println("model: processes seen in the states: " + Arrays.toString(seen));
        CHECKS.finish();
    }

    private static void oneRun(int seed, int[] seen) {
        Random random = new Random(seed);
        int frames = random.nextInt(4) == 0 ? random.nextInt(42) : 40;
        int quantum = random.nextInt(11);
        PagedKernel kernel = new PagedKernel(frames, quantum);
        Model model = new Model(frames, quantum);
        for (int word : seed % 2 == 0 ? randomWords(random) : randomCalls(random)) {
            CHECKS.due("seed " + seed + " load", kernel.load(word), model.load(word));
        }
        CHECKS.due("seed " + seed + " boot", kernel.boot(), model.boot());
        for (int call = 0; call < 200; call++) {
            if (random.nextInt(8) == 0) {
                int n = random.nextInt(12) - 1;
                CHECKS.due("seed " + seed + " run " + n, kernel.run(n), model.run(n));
            } else {
                CHECKS.due("seed " + seed + " step", kernel.step(), model.step());
            }
            CHECKS.dueText("seed " + seed + " call " + call, Look.all(kernel), model.look());
            for (int p = 1; p <= 8; p++) {
                seen[kernel.stateOf(p)]++;
            }
        }
    }

    private static List<Integer> randomWords(Random random) {
        List<Integer> words = new ArrayList<>();
        int length = 1 + random.nextInt(66);
        for (int i = 0; i < length; i++) {
            words.add(randomWord(random));
        }
        return words;
    }

    /** Whole calls one behind the other, which seldom end a process, and a jump back at last. */
    private static List<Integer> randomCalls(Random random) {
        List<Integer> words = new ArrayList<>();
        int length = 20 + random.nextInt(40);
        if (random.nextBoolean()) {
            words.addAll(List.of(Asm.number(0, 17, 0, Asm.PIPE), Asm.CALL));
        }
        while (words.size() < length) {
            int kind = OFTEN[random.nextInt(OFTEN.length)];
            if (random.nextInt(3) != 0) {
                words.add(Asm.number(0, 10, 0, random.nextInt(12) == 0 ? random.nextInt(12) - 2 : random.nextInt(4)));
            }
            words.add(Asm.number(0, 17, 0, kind));
            words.add(Asm.CALL);
            if (kind == Asm.FORK || random.nextInt(6) == 0) {
                words.add(Asm.branch(random.nextInt(2), 10, 0, 4 * (1 + random.nextInt(12))));
            }
        }
        words.add(Asm.jal(0, -4 * random.nextInt(words.size() + 1)));
        return words;
    }

    private static int randomWord(Random random) {
        int d = DATA[random.nextInt(DATA.length)];
        int s = DATA[random.nextInt(DATA.length)];
        int t = DATA[random.nextInt(DATA.length)];
        int kind = random.nextInt(100);
        if (kind < 35) {
            return Asm.CALL;
        }
        if (kind < 60) {
            return Asm.number(0, 17, 0, random.nextInt(13));
        }
        if (kind < 75) {
            return Asm.number(0, 10 + random.nextInt(2), 0, random.nextInt(9) - 1);
        }
        if (kind < 80) {
            return Asm.jal(random.nextInt(2), 4 * (random.nextInt(12) - 8));
        }
        if (kind < 86) {
            int[] kinds = {0, 1, 4, 5, 6, 7};
            return Asm.branch(kinds[random.nextInt(6)], s, random.nextInt(2) * t, 4 * (random.nextInt(20) - 10));
        }
        if (kind < 89) {
            return Asm.put(random.nextInt(3), t, 2, -4 * (1 + random.nextInt(30)));
        }
        if (kind < 92) {
            return Asm.read(random.nextInt(3), d, 2, -4 * (1 + random.nextInt(30)));
        }
        if (kind < 95) {
            return Asm.registers(random.nextInt(8), 0, d, s, t);
        }
        if (kind < 98) {
            return Asm.number(new int[] {0, 2, 3, 4, 6, 7}[random.nextInt(6)], d, s, random.nextInt(4096) - 2048);
        }
        return kind < 99 ? Asm.jalr(1, 0, random.nextInt(64) * 4) : random.nextInt();
    }
}
