/**
 * Promises 25 and 26 on full programs in which each growth, or each decrease, is the cause of the next: the longest
 * ones that a search found. What is due was reckoned by a second program, written from the document in another language.
 */
public final class CascadesTest {
    private static final String GROWING =
        "label 4, label 1, branch 6, branch 3, jump 7, jump 4, jump 6, branch 3, branch 3, jump 5, "
        + "branch 3, branch 7, branch 3, jump 7, label 5, jump 9, jump 9, branch 7, jump 1, branch 7, "
        + "jump 9, branch 4, jump 1, branch 4, jump 6, jump 1, branch 1, label 0, jump 4, label 6, "
        + "jump 1, branch 4, branch 0, jump 0, branch 1, label 3, data 33, label 7, jump 5, label 9";

    private static final String SHRINKING =
        "branch 1, jump 6, jump 2, jump 7, branch 4, branch 8, branch 1, jump 3, jump 6, label 4, "
        + "jump 1, branch 2, branch 0, data 50, jump 2, branch 9, branch 7, branch 7, jump 9, branch 8, "
        + "jump 2, branch 1, jump 1, label 9, jump 3, label 7, jump 2, jump 6, label 8, jump 6, "
        + "branch 4, label 1, jump 2, label 3, jump 8, label 2, jump 8, label 6, jump 1, label 0";

    public static void main(String[] args) {
        longRelaxing();
        longShrinking();
        Expect.end();
    }

    private static void longRelaxing() {
        String[] items = GROWING.split(", ");
        BranchRelaxer x = typed(items);
        Expect.due("25: rounds of a long cascade", 31, x.relax());
        Expect.due("25: forms of a long cascade", "2221222122222221222221222221122", forms(x, items));
        Expect.due("25: size of a long cascade", 205, x.totalSize());
        Expect.due("25: misfits of a long cascade", 0, x.misfits());
        Expect.due("26: nothing is left to shrink", 0, x.shrink());
        Expect.due("25: rounds of it again", 31, x.relax());
    }

    /** From all far, which takes 22 passes. */
    private static void longShrinking() {
        String[] items = SHRINKING.split(", ");
        BranchRelaxer x = typed(items);
        for (int i = 0; i < items.length; i++) {
            if (isTransfer(items[i])) {
                x.setForm(i, 2);
            }
        }
        Expect.due("26: size with all forms far", 224, x.totalSize());
        Expect.due("26: decreases in many passes", 43, x.shrink());
        Expect.due("26: forms after many passes", "222101111111100000100000010000", forms(x, items));
        Expect.due("26: size after many passes", 137, x.totalSize());
        Expect.due("26: decreases when it is done", 0, x.shrink());
    }

    /** Asks for no more than is needed, so that an object stays below 512 calls. */
    private static BranchRelaxer typed(String[] items) {
        BranchRelaxer x = new BranchRelaxer();
        for (int i = 0; i < items.length; i++) {
            Expect.type(x, items[i]);
            x.insert(i);
        }
        return x;
    }

    private static String forms(BranchRelaxer x, String[] items) {
        StringBuilder all = new StringBuilder();
        for (int i = 0; i < items.length; i++) {
            if (isTransfer(items[i])) {
                all.append(x.item(i, 2));
            }
        }
        return all.toString();
    }

    private static boolean isTransfer(String item) {
        return item.startsWith("jump") || item.startsWith("branch");
    }
}
