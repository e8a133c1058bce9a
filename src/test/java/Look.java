import java.util.ArrayList;
import java.util.Arrays;
import java.util.List;

/** What can be looked at in a kernel, written out, so that two looks can be held side by side. */
final class Look {
    private Look() {
    }

    static String all(PagedKernel kernel) {
        List<Integer> row = new ArrayList<>();
        for (int i = 0; i < 10 && kernel.waitingTurn(i) != 0; i++) {
            row.add(kernel.waitingTurn(i));
        }
        return "turn " + kernel.current() + " row " + row + " " + things(kernel, 0);
    }

    /** Without the turn and the row, and without the PC and x10 of one process: for calls that are refused. */
    static String things(PagedKernel kernel, int caller) {
        List<Integer> console = new ArrayList<>();
        for (int i = 0; i < kernel.consoleLength(); i++) {
            console.add(kernel.console(i));
        }
        StringBuilder text = new StringBuilder("free ").append(kernel.freeFrames());
        text.append(" console ").append(console).append(" held");
        for (int pipe = 0; pipe < 4; pipe++) {
            text.append(' ').append(kernel.held(pipe));
        }
        for (int p = 1; p <= 8; p++) {
            if (kernel.stateOf(p) != 0) {
                text.append("\nprocess ").append(p).append(" state ").append(kernel.stateOf(p));
                text.append(" exit ").append(kernel.exitOf(p)).append(" parent ").append(kernel.parentOf(p));
                text.append(own(kernel, p, p == caller));
            }
        }
        return text.toString();
    }

    /** Pages, PC, registers, descriptors and words of a process. */
    static String own(PagedKernel kernel, int p, boolean isCaller) {
        StringBuilder text = new StringBuilder(" pages ").append(kernel.pages(p));
        text.append(" pc ").append(isCaller ? 0 : kernel.pc(p));
        text.append(" registers ").append(Arrays.toString(registers(kernel, p, isCaller))).append(" descriptors");
        for (int d = 0; d < 6; d++) {
            text.append(' ').append(kernel.descriptor(p, d));
        }
        text.append(" words");
        for (int address = 0; address < 64 * kernel.pages(p); address += 4) {
            text.append(' ').append(kernel.word(p, address));
        }
        return text.toString();
    }

    private static int[] registers(PagedKernel kernel, int p, boolean isCaller) {
        int[] registers = new int[32];
        for (int k = 0; k < 32; k++) {
            registers[k] = isCaller && k == 10 ? 0 : kernel.register(p, k);
        }
        return registers;
    }
}
