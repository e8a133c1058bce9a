import java.util.function.BooleanSupplier;

/** Counts the answers that are not as due and prints each of them. */
final class Checks {
    private static final int MOST_STEPS = 2000;

    private final String title;
    private String sentence = "";
    private int sentences;
    private int madeBefore;
    private int made;
    private int wrong;

    Checks(String title) {
        this.title = title;
    }

    /** What is checked from here on holds this sentence of the document; it is told with what is wrong. */
    void sentence(String words) {
        closeSentence();
        sentence = words;
        sentences++;
    }

    private void closeSentence() {
        if (sentences > 0 && made == madeBefore) {
            tell("nothing is checked");
        }
        madeBefore = made;
    }

    private void tell(String what) {
        wrong++;
        System.out.println(title + ": " + what + (sentence.isEmpty() ? "" : " [" + sentence + "]"));
    }

    void due(String what, long got, long want) {
        made++;
        if (got != want) {
            tell(what + " answered " + got + ", due is " + want);
        }
    }

    void due(String what, boolean got, boolean want) {
        due(what, got ? 1 : 0, want ? 1 : 0);
    }

    /** The row, written as the numbers one behind the other. */
    void dueRow(String what, PagedKernel kernel, String want) {
        StringBuilder got = new StringBuilder();
        for (int i = 0; i < 10 && kernel.waitingTurn(i) != 0; i++) {
            got.append(kernel.waitingTurn(i));
        }
        dueText(what, got.toString(), want);
    }

    void dueConsole(String what, PagedKernel kernel, String want) {
        StringBuilder got = new StringBuilder();
        for (int i = 0; i < kernel.consoleLength(); i++) {
            got.append((char) kernel.console(i));
        }
        dueText(what, got.toString(), want);
    }

    void dueText(String what, String got, String want) {
        made++;
        if (!got.equals(want)) {
            tell(what + " answered '" + got + "', due is '" + want + "'");
        }
    }

    /** Makes steps until something is so, which must come. */
    void until(String what, PagedKernel kernel, BooleanSupplier reached) {
        for (int i = 0; i < MOST_STEPS && !reached.getAsBoolean(); i++) {
            if (kernel.step() <= 0) {
                break;
            }
        }
        due(what, reached.getAsBoolean(), true);
    }

    void finish() {
        closeSentence();
        String held = sentences > 0 ? sentences + " sentences, " : "";
        System.out.println(title + ": " + held + made + " checks, " + wrong + " wrong");
        if (wrong != 0) {
            System.exit(1);
        }
    }
}
