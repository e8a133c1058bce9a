/** Brings process 1 to the last word of a program, which is a call, and makes that call. */
final class LastCall {
    private LastCall() {
    }

    /** Booted and run until process 1 makes the call by the next step. */
    static PagedKernel before(Checks checks, Program program, int frames) {
        PagedKernel kernel = program.booted(frames, 9);
        checks.until("it comes to the call", kernel, () -> kernel.pc(1) == program.here() - 4 && isNext(kernel));
        return kernel;
    }

    private static boolean isNext(PagedKernel kernel) {
        return kernel.current() == 1 || kernel.current() == 0 && kernel.waitingTurn(0) == 1;
    }

    /** The call answers -1 and changes nothing but x10 and the PC. */
    static PagedKernel refused(Checks checks, String what, Program program, int frames) {
        PagedKernel kernel = before(checks, program, frames);
        String things = Look.things(kernel, 1);
        checks.due(what + ": step", kernel.step(), 1);
        checks.due(what, kernel.register(1, 10), -1);
        checks.due(what + ": pc", kernel.pc(1), program.here());
        checks.dueText(what + ": what was there", Look.things(kernel, 1), things);
        return kernel;
    }

    static PagedKernel refused(Checks checks, String what, Program program) {
        return refused(checks, what, program, 40);
    }

    static PagedKernel answers(Checks checks, String what, Program program, int answer) {
        return answers(checks, what, program, 40, answer);
    }

    static PagedKernel answers(Checks checks, String what, Program program, int frames, int answer) {
        PagedKernel kernel = before(checks, program, frames);
        checks.due(what + ": step", kernel.step(), 1);
        checks.due(what, kernel.register(1, 10), answer);
        checks.due(what + ": pc", kernel.pc(1), program.here());
        return kernel;
    }

    /** The call puts process 1 into a state of sleep and changes nothing else of it, nor of the others. */
    static PagedKernel sleeps(Checks checks, String what, Program program, int state) {
        PagedKernel kernel = before(checks, program, 40);
        String things = Look.things(kernel, 0);
        checks.due(what + ": ready before", kernel.stateOf(1), 1);
        checks.due(what + ": step", kernel.step(), 1);
        checks.due(what, kernel.stateOf(1), state);
        checks.due(what + ": nobody has the turn", kernel.current(), 0);
        String want = things.replace("process 1 state 1 ", "process 1 state " + state + " ");
        checks.dueText(what + ": what was there", Look.things(kernel, 0), want);
        return kernel;
    }
}
