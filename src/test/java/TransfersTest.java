import java.util.NoSuchElementException;

/** Promises 18 to 30: transfers, their displacements, and the choice of their forms. */
public final class TransfersTest {
    public static void main(String[] args) {
        transferCount();
        formCount();
        undefinedCount();
        displacement();
        fitsAndNeededForm();
        exceptionsOfATransfer();
        misfits();
        relax();
        relaxStartsShortAndGrowsAtOnce();
        relaxManyRounds();
        shrink();
        shrinkInPasses();
        leastSizeAndOptimize();
        optimizeTakesTheFirst();
        optimizeGrowsBeforeAnAlign();
        consistentChoices();
        exceptionsOfTheSearch();
        averageForm();
        Expect.end();
    }

    private static void transferCount() {
        Expect.due("18: none", 0, Expect.program("label 1", "load 1", "pool").transferCount());
        Expect.due("18: jumps and branches", 3, Expect.program("jump 1", "code 1", "branch 1", "jump 2").transferCount());
        BranchRelaxer x = new BranchRelaxer();
        for (int i = 0; i < 40; i++) {
            Expect.add(x, "jump 1");
        }
        Expect.due("18: 40 of them", 40, x.transferCount());
    }

    private static void formCount() {
        BranchRelaxer x = Expect.program("jump 1", "branch 1", "code 1", "jump 1", "pool");
        x.setForm(1, 2);
        Expect.due("19: formCount(0)", 2, x.formCount(0));
        Expect.due("19: formCount(1)", 0, x.formCount(1));
        Expect.due("19: formCount(2)", 1, x.formCount(2));
        Expect.fails("19: formCount(-1)", IllegalArgumentException.class, () -> x.formCount(-1));
        Expect.fails("19: formCount(3)", IllegalArgumentException.class, () -> x.formCount(3));
        Expect.due("19: of nothing", 0, new BranchRelaxer().formCount(0));
    }

    private static void undefinedCount() {
        BranchRelaxer x = Expect.program("jump 1", "branch 2", "jump 2", "load 3", "label 0");
        Expect.due("20: three", 3, x.undefinedCount());
        Expect.add(x, "label 2");
        Expect.due("20: one", 1, x.undefinedCount());
        x.undo();
        Expect.due("20: three again", 3, x.undefinedCount());
        Expect.due("20: of nothing", 0, new BranchRelaxer().undefinedCount());
    }

    private static void displacement() {
        BranchRelaxer x = Expect.program("jump 1", "code 4", "label 1", "branch 1", "jump 1");
        Expect.due("21: forward", 4, x.displacement(0));
        Expect.due("21: back over itself", -2, x.displacement(3));
        Expect.due("21: back over two", -4, x.displacement(4));
        x.setForm(0, 2);
        x.setForm(3, 2);
        Expect.due("21: forward does not count itself", 4, x.displacement(0));
        Expect.due("21: back with another form", -7, x.displacement(3));
        Expect.due("21: back over both", -9, x.displacement(4));
        Expect.due("21: to the next address", 0, Expect.program("jump 3", "label 3").displacement(0));
    }

    private static void fitsAndNeededForm() {
        // The displacement forward is the data between the jump and the label.
        int[] forward = {15, 16, 99, 100};
        int[] neededForward = {0, 1, 1, 2};
        for (int i = 0; i < forward.length; i++) {
            BranchRelaxer x = Expect.program("jump 1", "label 1");
            spread(x, forward[i]);
            Expect.due("21: displacement", forward[i], x.displacement(0));
            checkForms(x, 0, neededForward[i]);
        }
        // The displacement back is the data and the jump, whose size is 2, 3 or 5.
        int[] back = {16, 17, 100, 101};
        for (int i = 0; i < back.length; i++) {
            for (int form = 0; form <= 2; form++) {
                int size = form == 0 ? 2 : form == 1 ? 3 : 5;
                BranchRelaxer x = Expect.program("label 1", "jump 1");
                spread(x, back[i] - size);
                int jump = x.itemCount() - 1;
                x.setForm(jump, form);
                Expect.due("21: displacement", -back[i], x.displacement(jump));
                Expect.due("22: fits with " + form + " by " + -back[i], form >= neededForward[i], x.fits(jump));
                Expect.due("24: neededForm by " + -back[i], neededForward[i], x.neededForm(jump));
            }
        }
    }

    private static void spread(BranchRelaxer x, int bytes) {
        int rest = bytes;
        while (rest > 0) {
            int size = Math.min(rest, 50);
            Expect.type(x, "data " + size);
            x.insert(1);
            rest -= size;
        }
    }

    private static void checkForms(BranchRelaxer x, int item, int needed) {
        for (int form = 0; form <= 2; form++) {
            x.setForm(item, form);
            Expect.due("22: fits with form " + form, form >= needed, x.fits(item));
            Expect.due("24: neededForm with form " + form, needed, x.neededForm(item));
            Expect.due("23: misfits with form " + form, form >= needed ? 0 : 1, x.misfits());
        }
    }

    private static void exceptionsOfATransfer() {
        BranchRelaxer x = Expect.program("jump 1", "code 1", "label 2");
        int[] items = {-1, 3, 1, 2, 0};
        String[] due = {"IndexOutOfBoundsException", "IndexOutOfBoundsException", "IllegalArgumentException",
            "IllegalArgumentException", "NoSuchElementException"};
        for (int i = 0; i < items.length; i++) {
            int item = items[i];
            Expect.due("21: displacement(" + item + ")", "throws." + due[i], Expect.outcome(() -> x.displacement(item)));
            Expect.due("22: fits(" + item + ")", "throws." + due[i], Expect.outcome(() -> x.fits(item)));
            Expect.due("24: neededForm(" + item + ")", "throws." + due[i], Expect.outcome(() -> x.neededForm(item)));
        }
        x.setForm(0, 2);
        Expect.fails("22: far without a label", NoSuchElementException.class, () -> x.fits(0));
    }

    private static void misfits() {
        BranchRelaxer x = Expect.program("jump 1", "branch 1", "data 14", "label 1", "data 50", "data 50", "jump 1");
        Expect.due("23: the first and the last", 2, x.misfits());
        x.setForm(6, 1);
        Expect.due("23: near is too little for the last", 2, x.misfits());
        x.setForm(6, 2);
        Expect.due("23: the first alone", 1, x.misfits());
        Expect.add(x, "jump 7");
        Expect.fails("23: label 7", IllegalStateException.class, x::misfits);
        Expect.due("23: no items", 0, new BranchRelaxer().misfits());
    }

    private static void relax() {
        Expect.due("25: no items", 0, new BranchRelaxer().relax());
        BranchRelaxer x = Expect.program("jump 1", "branch 2", "data 14", "label 1", "label 2");
        // The jump does not fit by 16; the branch fits by 14.
        Expect.due("25: one round", 1, x.relax());
        Expect.due("25: its forms", "1 0", x.item(0, 2) + " " + x.item(1, 2));
        BranchRelaxer far = Expect.program("jump 1", "data 50", "data 50", "label 1");
        Expect.due("25: short to far in one round", 1, far.relax());
        Expect.due("25: far", 2, far.item(0, 2));
        BranchRelaxer y = Expect.program("jump 1");
        y.setForm(0, 2);
        Expect.fails("25: label 1", IllegalStateException.class, y::relax);
        Expect.due("25: the form stays", 2, y.item(0, 2));
        Expect.due("25: and it is no change", 1, y.undo());
    }

    private static void relaxStartsShortAndGrowsAtOnce() {
        BranchRelaxer x = Expect.program("jump 1", "code 3", "label 1");
        x.setForm(0, 2);
        Expect.due("25: no round, for short fits", 0, x.relax());
        Expect.due("25: short then", 0, x.item(0, 2));
        // Forward by 16 and back by 16 at once: only the former does not fit.
        BranchRelaxer y = Expect.program("jump 1", "label 2", "data 14", "jump 2", "label 1");
        Expect.due("25: the jump forward", 16, y.displacement(0));
        Expect.due("25: the jump back", -16, y.displacement(3));
        Expect.due("25: the jump forward alone", 1, y.relax());
        Expect.due("25: forms", "1 0", y.item(0, 2) + " " + y.item(3, 2));
        // If the first jump grew before the second one is looked at, the second one would fit.
        BranchRelaxer w = Expect.program("jump 1", "code 1", "jump 2", "align 3", "data 13", "label 2", "label 1");
        Expect.due("25: both do not fit", "19 16", w.displacement(0) + " " + w.displacement(2));
        Expect.due("25: one round", 1, w.relax());
        Expect.due("25: both have grown", "1 1", w.item(0, 2) + " " + w.item(2, 2));
        BranchRelaxer z = Expect.program("jump 1", "label 2", "data 15", "jump 2", "label 1");
        Expect.due("25: both in one round", 1, z.relax());
        Expect.due("25: forms", "1 1", z.item(0, 2) + " " + z.item(3, 2));
    }

    private static void relaxManyRounds() {
        // Each jump has one byte too many as soon as the next one has grown.
        BranchRelaxer x = Expect.program("jump 1", "jump 2", "code 9", "code 4", "label 1", "code 3", "label 2");
        Expect.due("25: first displacements", "15 16", x.displacement(0) + " " + x.displacement(1));
        Expect.due("25: two rounds", 2, x.relax());
        Expect.due("25: both near", "1 1", x.item(0, 2) + " " + x.item(1, 2));
        Expect.due("25: all fit", 0, x.misfits());
        // Near by 98 plus the growing of another from short to near and from near to far.
        BranchRelaxer y = Expect.program("jump 1", "jump 2", "data 50", "data 46", "label 1", "data 3", "label 2");
        Expect.due("25: displacements", "98 99", y.displacement(0) + " " + y.displacement(1));
        Expect.due("25: near both, which is enough", 1, y.relax());
        Expect.due("25: displacements then", "99 99", y.displacement(0) + " " + y.displacement(1));
        BranchRelaxer z = Expect.program("jump 1", "jump 2", "data 50", "data 47", "label 1", "data 3", "label 2");
        Expect.due("25: displacements", "99 100", z.displacement(0) + " " + z.displacement(1));
        Expect.due("25: a near one becomes far", 2, z.relax());
        Expect.due("25: both far", "2 2", z.item(0, 2) + " " + z.item(1, 2));
    }

    private static void shrink() {
        Expect.due("26: no items", 0, new BranchRelaxer().shrink());
        BranchRelaxer x = Expect.program("jump 1", "data 16", "label 1");
        Expect.fails("26: it does not fit", IllegalStateException.class, x::shrink);
        x.setForm(0, 2);
        Expect.due("26: far to near", 1, x.shrink());
        Expect.due("26: near", 1, x.item(0, 2));
        Expect.due("26: no further", 0, x.shrink());
        Expect.due("26: both were changes", 5, x.undo());
        BranchRelaxer y = Expect.program("jump 1", "jump 2", "label 1");
        y.setForm(0, 2);
        Expect.fails("26: label 2", IllegalStateException.class, y::shrink);
        Expect.due("26: the form stays", 2, y.item(0, 2));
        Expect.due("26: and it is no change", 3, y.undo());
    }

    private static void shrinkInPasses() {
        BranchRelaxer x = Expect.program("jump 1", "branch 1", "label 1");
        x.setForm(0, 2);
        x.setForm(1, 2);
        Expect.due("26: two passes with two decreases each", 4, x.shrink());
        Expect.due("26: short both", 2, x.formCount(0));
        // The first one can only be short when the second one is, which a later pass sees.
        BranchRelaxer y = Expect.program("jump 1", "jump 2", "data 13", "label 1", "label 2");
        y.setForm(0, 1);
        y.setForm(1, 1);
        Expect.due("26: with the second near the first stays", 16, y.displacement(0));
        Expect.due("26: the first in the second pass", 2, y.shrink());
        Expect.due("26: short both", 2, y.formCount(0));
        // Before the align one of the two can shrink, and the first is considered first.
        BranchRelaxer w = Expect.program("jump 1", "label 1", "code 1", "jump 2", "align 3", "data 13", "label 2");
        w.setForm(0, 1);
        w.setForm(3, 1);
        Expect.due("26: one of two", 1, w.shrink());
        Expect.due("26: the first one", "0 1", w.item(0, 2) + " " + w.item(3, 2));
        // Behind the align the jump goes back by 16 and its own size, whatever shrinks before it.
        BranchRelaxer z = Expect.program("label 1", "data 9", "jump 2", "jump 2", "label 2", "align 4", "jump 1");
        z.setForm(2, 1);
        z.setForm(3, 1);
        z.setForm(6, 1);
        Expect.due("26: all fit", 0, z.misfits());
        Expect.due("26: the jump behind the align stays near", 2, z.shrink());
        Expect.due("26: its form", 1, z.item(6, 2));
    }

    private static void leastSizeAndOptimize() {
        BranchRelaxer empty = new BranchRelaxer();
        Expect.due("27: nothing", 0, empty.leastSize());
        Expect.due("28: nothing", 0, empty.optimize());
        Expect.due("28: that is a change", 0, empty.undo());
        BranchRelaxer x = Expect.program("jump 1", "branch 2", "data 14", "label 1", "label 2", "load 3");
        x.setForm(0, 2);
        x.setForm(1, 2);
        // 3 + 2 + 14 + 2 = 21, and the literal from 24 on
        Expect.due("27: with the end pool", 28, x.leastSize());
        Expect.due("27: the forms stay", "2 2", x.item(0, 2) + " " + x.item(1, 2));
        Expect.due("28: optimize", 28, x.optimize());
        Expect.due("28: total size then", 28, x.totalSize());
        Expect.due("28: all fit", 0, x.misfits());
        x.undo();
        Expect.due("28: taken back", "2 2", x.item(0, 2) + " " + x.item(1, 2));
    }

    private static void optimizeTakesTheFirst() {
        // The align hides the sizes of the transfers: 0 0 is the first of all that lead to 16.
        BranchRelaxer x = Expect.program("jump 1", "branch 1", "label 1", "align 4");
        x.setForm(0, 2);
        Expect.due("28: optimize", 16, x.optimize());
        Expect.due("28: the first forms", "0 0", x.item(0, 2) + " " + x.item(1, 2));
        // The last jump must be near; the others are short although near would cost nothing.
        BranchRelaxer y = Expect.program("jump 2", "branch 2", "jump 1", "label 2", "data 20", "label 1", "align 4");
        Expect.due("28: optimize", 32, y.optimize());
        Expect.due("28: the first forms", "0 0 1", y.item(0, 2) + " " + y.item(1, 2) + " " + y.item(2, 2));
    }

    private static void optimizeGrowsBeforeAnAlign() {
        // The align makes the way shorter if one of the jumps before it is longer, at the same size.
        BranchRelaxer y = Expect.program("jump 1", "label 1", "code 1", "jump 2", "align 3", "data 13", "label 2");
        Expect.due("21: with short ones", 16, y.displacement(3));
        y.setForm(0, 1);
        Expect.due("21: with the first near", 15, y.displacement(3));
        Expect.due("27: the same total size", 21, y.leastSize());
        y.optimize();
        Expect.due("28: a lower first form comes first", "0 1", y.item(0, 2) + " " + y.item(3, 2));
    }

    private static void consistentChoices() {
        Expect.due("29: nothing", 1, new BranchRelaxer().consistentChoices());
        Expect.due("29: one that fits always", 3, Expect.program("jump 1", "label 1").consistentChoices());
        Expect.due("29: near or far", 2, Expect.program("jump 1", "data 16", "label 1").consistentChoices());
        Expect.due("29: far", 1, Expect.program("jump 1", "data 50", "data 50", "label 1").consistentChoices());
        // Short is possible for the first only if the second is short: 1 + 2 * 3.
        Expect.due("29: one over another", 7,
            Expect.program("jump 1", "jump 2", "label 2", "code 9", "code 4", "label 1").consistentChoices());
        // Back: the displacement grows with the jump's own size, 14 + 2 fits short.
        Expect.due("29: back", 3, Expect.program("label 1", "data 14", "jump 1").consistentChoices());
        Expect.due("29: back by one more", 2, Expect.program("label 1", "data 15", "jump 1").consistentChoices());
        Expect.due("29: back by 97 + 3", 2, Expect.program("label 1", "data 50", "data 47", "jump 1").consistentChoices());
        Expect.due("29: back by 98 + 3", 1, Expect.program("label 1", "data 50", "data 48", "jump 1").consistentChoices());
        BranchRelaxer x = Expect.program("label 1");
        for (int i = 0; i < 8; i++) {
            Expect.add(x, "jump 1");
        }
        // The k-th jump is short if all the jumps up to it have at most 16 bytes.
        int due = 0;
        for (int way = 0; way < 6561; way++) {
            due += chainFits(way) ? 1 : 0;
        }
        Expect.due("29: eight jumps back", due, x.consistentChoices());
    }

    private static boolean chainFits(int way) {
        int rest = way;
        int behind = 0;
        for (int i = 0; i < 8; i++) {
            int form = rest % 3;
            rest /= 3;
            behind += form == 0 ? 2 : form == 1 ? 3 : 5;
            if (form == 0 && behind > 16) {
                return false;
            }
        }
        return true;
    }

    private static void exceptionsOfTheSearch() {
        BranchRelaxer x = Expect.program("label 1");
        for (int i = 0; i < 8; i++) {
            Expect.add(x, "branch 1");
        }
        Expect.due("27: eight transfers", 16, x.leastSize());
        Expect.due("28: eight transfers", 16, x.optimize());
        Expect.add(x, "jump 1");
        x.setForm(9, 1);
        Expect.fails("27: nine transfers", UnsupportedOperationException.class, x::leastSize);
        Expect.fails("28: nine transfers", UnsupportedOperationException.class, x::optimize);
        Expect.fails("29: nine transfers", UnsupportedOperationException.class, x::consistentChoices);
        Expect.due("28: the forms stay", 1, x.item(9, 2));
        x.remove(0);
        Expect.fails("27: the label comes first", IllegalStateException.class, x::leastSize);
        Expect.fails("28: the label comes first", IllegalStateException.class, x::optimize);
        Expect.fails("29: the label comes first", IllegalStateException.class, x::consistentChoices);
        BranchRelaxer y = Expect.program("jump 4");
        Expect.fails("27: one without a label", IllegalStateException.class, y::leastSize);
        Expect.fails("28: one without a label", IllegalStateException.class, y::optimize);
        Expect.fails("29: one without a label", IllegalStateException.class, y::consistentChoices);
        Expect.due("28: no change", 0, y.undo());
    }

    private static void averageForm() {
        BranchRelaxer x = Expect.program("jump 1", "code 1", "branch 2", "jump 3");
        Expect.due("30: all short", 0.0, x.averageForm());
        x.setForm(0, 2);
        Expect.due("30: two by three", 2.0 / 3.0, x.averageForm());
        x.setForm(2, 1);
        Expect.due("30: three by three", 1.0, x.averageForm());
        x.setForm(3, 2);
        Expect.due("30: five by three", 5.0 / 3.0, x.averageForm());
        Expect.fails("30: none", ArithmeticException.class, () -> Expect.program("load 1").averageForm());
    }
}
