import java.util.ArrayDeque;
import java.util.ArrayList;
import java.util.Arrays;
import java.util.Deque;
import java.util.List;
import java.util.Map;
import java.util.TreeMap;

/**
 * The document written down a second time, in another way than the program: memory byte by byte,
 * a call is first tried and says itself whether it must wait, numbers are read bit by bit.
 */
final class Model {
    static final class Process {
        final int number;
        String state = "READY";
        int parent;
        int exit;
        int pc;
        int[] x = new int[32];
        List<byte[]> pages = new ArrayList<>();
        String[] descriptors = new String[6];

        Process(int number) {
            this.number = number;
        }

        boolean asleep() {
            return !state.equals("READY") && !state.equals("ENDED");
        }
    }

    /** A fault on its way out of an instruction. */
    private static final class Fault extends RuntimeException {
        private static final long serialVersionUID = 1L;
        final int kind;

        Fault(int kind) {
            this.kind = kind;
        }
    }

    private static final List<String> STATES = List.of("NONE", "READY", "READING", "WRITING", "WAITING", "ENDED");

    private final int quantum;
    private int free;
    private final List<Integer> program = new ArrayList<>();
    private boolean booted;
    private final Map<Integer, Process> all = new TreeMap<>();
    private final Deque<Integer> row = new ArrayDeque<>();
    private final Map<Integer, Deque<Integer>> pipes = new TreeMap<>();
    private final List<Integer> console = new ArrayList<>();
    private int turn;
    private int used;

    Model(int frames, int quantum) {
        this.free = frames < 1 || frames > 40 ? 12 : frames;
        this.quantum = quantum < 1 || quantum > 9 ? 4 : quantum;
    }

    boolean load(int word) {
        return !booted && program.size() < 64 && program.add(word);
    }

    int boot() {
        int pages = (int) Math.ceil(program.size() / 16.0) + 1;
        if (booted || program.isEmpty() || pages > free) {
            return booted ? 1 : 2;
        }
        booted = true;
        Process first = new Process(1);
        all.put(1, first);
        addPages(first, pages);
        for (int i = 0; i < program.size(); i++) {
            for (int b = 0; b < 4; b++) {
                setByte(first, 4 * i + b, program.get(i) >> 8 * b);
            }
        }
        first.x[2] = 64 * pages;
        first.descriptors[1] = "C";
        row.add(1);
        return 0;
    }

    int step() {
        if (turn == 0 && row.isEmpty()) {
            return all.values().stream().allMatch(p -> p.state.equals("ENDED")) ? -1 : 0;
        }
        if (turn == 0) {
            turn = row.removeFirst();
            used = 0;
        }
        Process p = all.get(turn);
        boolean yields = false;
        try {
            yields = instruction(p);
        } catch (Fault fault) {
            end(p, 128 + fault.kind);
        }
        used++;
        int maker = turn;
        if (!p.state.equals("READY")) {
            turn = 0;
        } else if (yields || used == quantum) {
            row.addLast(turn);
            turn = 0;
        }
        for (Process sleeper : all.values()) {
            if (sleeper.asleep() && mustWait(sleeper) == null) {
                sleeper.state = "READY";
                row.addLast(sleeper.number);
            }
        }
        return maker;
    }

    int run(int n) {
        if (n < 1 || n > 100) {
            return -1;
        }
        int made = 0;
        while (made < n && step() > 0) {
            made++;
        }
        return made;
    }

    private void addPages(Process p, int count) {
        for (int i = 0; i < count; i++) {
            p.pages.add(new byte[64]);
        }
        free -= count;
    }

    private static int getByte(Process p, int address) {
        return p.pages.get(address / 64)[address % 64] & 255;
    }

    private static void setByte(Process p, int address, int value) {
        p.pages.get(address / 64)[address % 64] = (byte) value;
    }

    private static boolean isThere(Process p, int address) {
        return address >= 0 && address / 64 < p.pages.size();
    }

    private static int getBytes(Process p, int address, int size) {
        int value = 0;
        for (int b = size - 1; b >= 0; b--) {
            value = value * 256 + getByte(p, address + b);
        }
        return value;
    }

    /** Bits high .. low, one behind the other for several pairs; the first of all is the sign. */
    private static int signed(int w, int zeros, int... pairs) {
        long value = 0;
        int length = 0;
        for (int i = 0; i < pairs.length; i += 2) {
            for (int bit = pairs[i]; bit >= pairs[i + 1]; bit--) {
                value = 2 * value + (w >> bit & 1);
                length++;
            }
        }
        if (value >= 1L << length - 1) {
            value -= 1L << length;
        }
        return (int) (value << zeros);
    }

    private static int field(int w, int high, int low) {
        int value = 0;
        for (int bit = high; bit >= low; bit--) {
            value = 2 * value + (w >> bit & 1);
        }
        return value;
    }

    private static void set(Process p, int d, int value) {
        p.x[d] = d == 0 ? 0 : value;
    }

    private static void jump(Process p, int d, int target) {
        if (target % 4 != 0) {
            throw new Fault(0);
        }
        set(p, d, p.pc + 4);
        p.pc = target;
    }

    private static long plain(int value) {
        return value & 0xFFFFFFFFL;
    }

    private boolean instruction(Process p) {
        if (!isThere(p, p.pc)) {
            throw new Fault(1);
        }
        int w = getBytes(p, p.pc, 4);
        int op = field(w, 6, 0);
        int d = field(w, 11, 7);
        int f = field(w, 14, 12);
        int g = field(w, 31, 25);
        int t = field(w, 24, 20);
        int sv = p.x[field(w, 19, 15)];
        int tv = p.x[t];
        int i = signed(w, 0, 31, 20);
        if (op == 55 || op == 23) {
            set(p, d, (op == 23 ? p.pc : 0) + (w >> 12 << 12));
        } else if (op == 111) {
            jump(p, d, p.pc + signed(w, 1, 31, 31, 19, 12, 20, 20, 30, 21));
            return false;
        } else if (op == 103 && f == 0) {
            jump(p, d, (sv + i) - (sv + i & 1));
            return false;
        } else if (op == 99 && f != 2 && f != 3) {
            boolean holds = f < 2 ? sv == tv : f < 6 ? sv < tv : plain(sv) < plain(tv);
            jump(p, 0, p.pc + (holds == (f % 2 == 0) ? signed(w, 1, 31, 31, 7, 7, 30, 25, 11, 8) : 4));
            return false;
        } else if (op == 3 && f != 3 && f < 6) {
            set(p, d, fetch(p, sv + i, f));
        } else if (op == 35 && f < 3) {
            put(p, sv + signed(w, 0, 31, 25, 11, 7), f, tv);
        } else if (op == 19 && (f != 1 && f != 5 || g == 0 || f == 5 && g == 32)) {
            set(p, d, computed(f == 5 && g == 32 ? 9 : f, sv, f == 1 || f == 5 ? t : i));
        } else if (op == 51 && (g == 0 || g == 32 && (f == 0 || f == 5))) {
            set(p, d, computed(g == 0 ? f : f == 0 ? 8 : 9, sv, tv));
        } else if (w == 115) {
            return call(p);
        } else if (w == 1048691) {
            throw new Fault(3);
        } else if (op != 15 || f != 0) {
            throw new Fault(2);
        }
        p.pc += 4;
        return false;
    }

    private static int fetch(Process p, int address, int f) {
        int size = f % 4 == 0 ? 1 : f % 4 == 1 ? 2 : 4;
        if (address % size != 0) {
            throw new Fault(4);
        }
        if (!isThere(p, address)) {
            throw new Fault(5);
        }
        int value = getBytes(p, address, size);
        return f == 0 ? (byte) value : f == 1 ? (short) value : value;
    }

    private static void put(Process p, int address, int f, int value) {
        int size = f == 0 ? 1 : f == 1 ? 2 : 4;
        if (address % size != 0) {
            throw new Fault(6);
        }
        if (!isThere(p, address)) {
            throw new Fault(7);
        }
        for (int b = 0; b < size; b++) {
            setByte(p, address + b, value >> 8 * b);
        }
    }

    private static int computed(int f, int a, int b) {
        long power = 1L << (b & 31);
        switch (f) {
            case 0: return (int) ((long) a + b);
            case 1: return (int) (a * power);
            case 2: return Integer.compare(a, b) < 0 ? 1 : 0;
            case 3: return plain(a) < plain(b) ? 1 : 0;
            case 4: return (a | b) & ~(a & b);
            case 5: return (int) (plain(a) / power);
            case 6: return ~(~a & ~b);
            case 7: return ~(~a | ~b);
            case 8: return (int) ((long) a - b);
            default: return (int) Math.floorDiv(a, power);
        }
    }

    private boolean has(String end) {
        return all.values().stream().anyMatch(p -> Arrays.asList(p.descriptors).contains(end));
    }

    private static String what(Process p, int d) {
        return d >= 0 && d <= 5 ? p.descriptors[d] : null;
    }

    private List<Process> children(Process p) {
        List<Process> found = new ArrayList<>();
        for (Process other : all.values()) {
            if (other.parent == p.number) {
                found.add(other);
            }
        }
        return found;
    }

    private static Process firstEnded(List<Process> some) {
        return some.stream().filter(p -> p.state.equals("ENDED")).findFirst().orElse(null);
    }

    /** The state a call must wait in, or null. */
    private String mustWait(Process p) {
        String end = what(p, p.x[10]);
        if (p.x[17] == 4 && !children(p).isEmpty() && firstEnded(children(p)) == null) {
            return "WAITING";
        }
        if (p.x[17] == 6 && end != null && end.startsWith("W")) {
            int pipe = end.charAt(1) - '0';
            return has("R" + pipe) && pipes.get(pipe).size() == 8 ? "WRITING" : null;
        }
        if (p.x[17] == 7 && end != null && end.startsWith("R")) {
            int pipe = end.charAt(1) - '0';
            return has("W" + pipe) && pipes.get(pipe).isEmpty() ? "READING" : null;
        }
        return null;
    }

    private boolean call(Process p) {
        String wait = mustWait(p);
        if (wait != null) {
            p.state = wait;
            return false;
        }
        p.pc += 4;
        int a = p.x[10];
        switch (p.x[17]) {
            case 0: return true;
            case 1: end(p, a); return false;
            case 2: p.x[10] = p.number; break;
            case 3: p.x[10] = fork(p); break;
            case 4: p.x[10] = collect(p); break;
            case 5: p.x[10] = grow(p, a); break;
            case 6: p.x[10] = write(what(p, a), p.x[11] & 255); break;
            case 7: p.x[10] = read(what(p, a)); break;
            case 8: p.x[10] = pipe(p); break;
            case 9: p.x[10] = close(p, a); break;
            case 10: p.x[10] = dup(p, a); break;
            case 11: p.x[10] = kill(a); break;
            default: p.x[10] = -1;
        }
        return false;
    }

    private int fork(Process p) {
        int number = 1;
        while (all.containsKey(number)) {
            number++;
        }
        if (number > 8 || free < p.pages.size()) {
            return -1;
        }
        Process child = new Process(number);
        child.parent = p.number;
        child.pc = p.pc;
        child.x = p.x.clone();
        child.x[10] = 0;
        child.descriptors = p.descriptors.clone();
        for (byte[] page : p.pages) {
            child.pages.add(page.clone());
        }
        free -= p.pages.size();
        all.put(number, child);
        row.addLast(number);
        return number;
    }

    private int collect(Process p) {
        Process child = firstEnded(children(p));
        if (child == null) {
            return -1;
        }
        all.remove(child.number);
        p.x[11] = child.exit;
        return child.number;
    }

    private int grow(Process p, int a) {
        if (a < 1 || a > 8 || p.pages.size() + a > 8 || free < a) {
            return -1;
        }
        addPages(p, a);
        return p.pages.size();
    }

    private int write(String end, int b) {
        if (end == null || end.startsWith("R")) {
            return -1;
        }
        if (end.equals("C")) {
            return console.size() < 200 && console.add(b) ? b : -1;
        }
        if (!has("R" + end.charAt(1))) {
            return -1;
        }
        pipes.get(end.charAt(1) - '0').addLast(b);
        return b;
    }

    private int read(String end) {
        if (end == null || !end.startsWith("R") || pipes.get(end.charAt(1) - '0').isEmpty()) {
            return -1;
        }
        return pipes.get(end.charAt(1) - '0').removeFirst();
    }

    private int pipe(Process p) {
        List<Integer> nothing = new ArrayList<>();
        for (int d = 0; d < 6; d++) {
            if (p.descriptors[d] == null) {
                nothing.add(d);
            }
        }
        int least = 0;
        while (pipes.containsKey(least)) {
            least++;
        }
        if (least > 3 || nothing.size() < 2) {
            return -1;
        }
        pipes.put(least, new ArrayDeque<>());
        p.descriptors[nothing.get(0)] = "R" + least;
        p.descriptors[nothing.get(1)] = "W" + least;
        p.x[11] = nothing.get(1);
        return nothing.get(0);
    }

    private void dropFreePipes() {
        pipes.keySet().removeIf(pipe -> !has("R" + pipe) && !has("W" + pipe));
    }

    private int close(Process p, int a) {
        if (what(p, a) == null) {
            return -1;
        }
        p.descriptors[a] = null;
        dropFreePipes();
        return 0;
    }

    private int dup(Process p, int a) {
        int least = Arrays.asList(p.descriptors).indexOf(null);
        if (what(p, a) == null || least < 0) {
            return -1;
        }
        p.descriptors[least] = p.descriptors[a];
        return least;
    }

    private int kill(int a) {
        Process victim = all.get(a);
        if (victim == null || victim.state.equals("ENDED")) {
            return -1;
        }
        end(victim, 137);
        return 0;
    }

    private void end(Process p, int exit) {
        p.state = "ENDED";
        p.exit = exit;
        free += p.pages.size();
        p.pages.clear();
        p.descriptors = new String[6];
        dropFreePipes();
        row.remove(p.number);
        boolean firstLives = !all.get(1).state.equals("ENDED");
        for (Process child : children(p)) {
            child.parent = firstLives ? 1 : 0;
            if (child.parent == 0 && child.state.equals("ENDED")) {
                all.remove(child.number);
            }
        }
        if (p.parent == 0 && p.number != 1) {
            all.remove(p.number);
        }
    }

    /** All that can be looked at, written out. */
    String look() {
        StringBuilder text = new StringBuilder();
        text.append("turn ").append(turn).append(" row ").append(row).append(" free ").append(free);
        text.append(" console ").append(console).append(" held");
        for (int pipe = 0; pipe < 4; pipe++) {
            text.append(' ').append(pipes.containsKey(pipe) ? pipes.get(pipe).size() : 0);
        }
        for (Process p : all.values()) {
            text.append("\nprocess ").append(p.number).append(" state ").append(STATES.indexOf(p.state));
            text.append(" exit ").append(p.state.equals("ENDED") ? p.exit : -1).append(" parent ").append(p.parent);
            text.append(" pages ").append(p.pages.size()).append(" pc ").append(p.pc);
            text.append(" registers ").append(Arrays.toString(p.x)).append(" descriptors");
            for (String end : p.descriptors) {
                text.append(' ').append(shown(end));
            }
            text.append(" words");
            for (int address = 0; address < 64 * p.pages.size(); address += 4) {
                text.append(' ').append(getBytes(p, address, 4));
            }
        }
        return text.toString();
    }

    private static int shown(String end) {
        if (end == null || end.equals("C")) {
            return end == null ? -1 : 0;
        }
        return (end.startsWith("R") ? 1 : 2) + 2 * (end.charAt(1) - '0');
    }
}
