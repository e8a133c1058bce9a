/** Counts the answers that are not as due and prints each of them. */
final class Checks {
    private final String title;
    private int made;
    private int wrong;

    Checks(String title) {
        this.title = title;
    }

    void due(String what, long got, long want) {
        made++;
        if (got != want) {
            wrong++;
            System.out.println(title + ": " + what + " answered " + got + ", due is " + want);
        }
    }

    void due(String what, boolean got, boolean want) {
        due(what, got ? 1 : 0, want ? 1 : 0);
    }

    /** The row, written as the numbers one behind the other. */
    void dueRow(String what, PagedKernel kernel, String want) {
        StringBuilder got = new StringBuilder();
        for (int i = 0; i < 10 && kernel.waitingTurn(i) != 0; i++) {
            got.append(kernel.waitingTurn(i));
        }
        dueText(what, got.toString(), want);
    }

    void dueConsole(String what, PagedKernel kernel, String want) {
        StringBuilder got = new StringBuilder();
        for (int i = 0; i < kernel.consoleLength(); i++) {
            got.append((char) kernel.console(i));
        }
        dueText(what, got.toString(), want);
    }

    void dueText(String what, String got, String want) {
        made++;
        if (!got.equals(want)) {
            wrong++;
            System.out.println(title + ": " + what + " answered '" + got + "', due is '" + want + "'");
        }
    }

    void finish() {
        System.out.println(title + ": " + made + " checks, " + wrong + " wrong");
        if (wrong != 0) {
            System.exit(1);
        }
    }
}
