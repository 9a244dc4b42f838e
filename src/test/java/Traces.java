import java.util.function.Consumer;

/** Looks at everything that an object holds: program, input, error position, history and what was saved. */
final class Traces {
    private Traces() {
    }

    /** Two equal objects, one of which is used by a call: it must hold the same as the other. */
    static void leavesAlone(String what, Consumer<BranchRelaxer> before, Consumer<BranchRelaxer> call) {
        Expect.due(what + " leaves the state alone", trace(before, x -> { }), trace(before, call));
    }

    private static String trace(Consumer<BranchRelaxer> before, Consumer<BranchRelaxer> call) {
        BranchRelaxer x = new BranchRelaxer();
        before.accept(x);
        call.accept(x);
        return everything(x);
    }

    /** Uses the object up, because the history and the input can only be seen by going through them. */
    private static String everything(BranchRelaxer x) {
        StringBuilder all = new StringBuilder(Expect.listing(x));
        all.append("| error ").append(Expect.outcome(x::errorPosition));
        for (int i = 0; i < 11; i++) {
            all.append("| undo ").append(Expect.outcome(x::undo)).append(' ').append(Expect.listing(x));
        }
        all.append("| restore ").append(Expect.outcome(x::restore)).append(' ').append(Expect.listing(x));
        x.reset();
        all.append("| input ").append(Expect.outcome(() -> x.append('3')));
        all.append(Expect.outcome(() -> x.insert(0))).append(' ').append(Expect.listing(x));
        all.append("| error ").append(Expect.outcome(x::errorPosition));
        return all.toString();
    }
}
