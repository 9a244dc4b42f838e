import java.util.NoSuchElementException;

/** Promises 39 to 41: undo, save and restore. */
public final class HistoryTest {
    public static void main(String[] args) {
        undoOfEachChange();
        tenChanges();
        whatIsNoChange();
        restoreForgets();
        saveAndRestore();
        objectsAreApart();
        Expect.end();
    }

    private static void undoOfEachChange() {
        BranchRelaxer x = Expect.program("jump 1", "data 16", "label 1");
        String before = Expect.listing(x);
        x.relax();
        String relaxed = Expect.listing(x);
        x.setForm(0, 2);
        String far = Expect.listing(x);
        x.shrink();
        x.optimize();
        x.move(0, 2);
        x.remove(1);
        Expect.due("39: undo of remove", 8, x.undo());
        Expect.due("39: before remove", "1 16 0; 2 1 0; 4 1 1; ", Expect.listing(x));
        Expect.due("39: undo of move", 7, x.undo());
        Expect.due("39: before move", relaxed, Expect.listing(x));
        Expect.due("39: undo of optimize", 6, x.undo());
        Expect.due("39: undo of shrink", 5, x.undo());
        Expect.due("39: before shrink", far, Expect.listing(x));
        Expect.due("39: undo of setForm", 4, x.undo());
        Expect.due("39: before setForm", relaxed, Expect.listing(x));
        Expect.due("39: undo of relax", 3, x.undo());
        Expect.due("39: before relax", before, Expect.listing(x));
        Expect.due("39: undo of insert", 2, x.undo());
        Expect.due("39: before insert", "4 1 0; 1 16 0; ", Expect.listing(x));
        x.undo();
        Expect.due("39: the last undo", 0, x.undo());
        Expect.due("39: nothing", 0, x.itemCount());
        Expect.fails("39: no change", NoSuchElementException.class, x::undo);
    }

    private static void tenChanges() {
        BranchRelaxer x = new BranchRelaxer();
        for (int i = 0; i < 25; i++) {
            Expect.add(x, "code " + (1 + i % 9));
        }
        for (int left = 9; left >= 0; left--) {
            Expect.due("39: undo()", left, x.undo());
            Expect.due("39: items", 15 + left, x.itemCount());
        }
        Expect.fails("39: an eleventh one", NoSuchElementException.class, x::undo);
        Expect.due("39: items stay", 15, x.itemCount());
        for (int i = 0; i < 15; i++) {
            Expect.due("39: item " + i, 1 + i % 9, x.item(i, 1));
        }
        Expect.add(x, "pool", "pool");
        Expect.due("39: undo is no change itself", 1, x.undo());
        Expect.due("39: the other", 0, x.undo());
    }

    private static void whatIsNoChange() {
        BranchRelaxer x = Expect.program("jump 1", "code 1");
        x.append('q');
        Expect.fails("39: insert", IllegalArgumentException.class, () -> x.insert(0));
        Expect.fails("39: remove", IndexOutOfBoundsException.class, () -> x.remove(2));
        Expect.fails("39: move", IndexOutOfBoundsException.class, () -> x.move(0, 2));
        Expect.fails("39: setForm", IllegalArgumentException.class, () -> x.setForm(1, 1));
        Expect.fails("39: relax", IllegalStateException.class, x::relax);
        Expect.fails("39: shrink", IllegalStateException.class, x::shrink);
        Expect.fails("39: optimize", IllegalStateException.class, x::optimize);
        Expect.fails("39: restore", IllegalStateException.class, x::restore);
        x.save();
        x.possibleAddresses(1);
        Expect.type(x, "pool");
        Expect.due("39: two inserts alone were changes", 1, x.undo());
        Expect.due("39: undo leaves the input alone", 5, x.append(' '));
        BranchRelaxer y = Expect.program("jump 1", "label 1");
        y.move(0, 0);
        y.setForm(0, 0);
        y.relax();
        y.shrink();
        y.optimize();
        y.leastSize();
        y.consistentChoices();
        Expect.due("39: changes that change nothing count", 6, y.undo());
    }

    private static void restoreForgets() {
        BranchRelaxer x = Expect.program("code 1", "code 2");
        x.save();
        Expect.add(x, "code 3");
        Expect.due("41: restore()", 2, x.restore());
        Expect.fails("41: no change is remembered", NoSuchElementException.class, x::undo);
        Expect.add(x, "code 4");
        Expect.due("41: a new change", 0, x.undo());
        Expect.due("41: back to what was restored", "0 1 0; 0 2 0; ", Expect.listing(x));
    }

    private static void saveAndRestore() {
        BranchRelaxer x = new BranchRelaxer();
        Expect.fails("41: nothing saved", IllegalStateException.class, x::restore);
        Expect.due("40: save of nothing", 0, x.save());
        Expect.add(x, "jump 1", "code 2");
        x.setForm(0, 2);
        Expect.due("41: restore of nothing", 0, x.restore());
        Expect.due("41: no items", 0, x.itemCount());
        Expect.add(x, "jump 1", "code 2");
        x.setForm(0, 2);
        Expect.due("40: save()", 2, x.save());
        x.setForm(0, 1);
        x.remove(1);
        Expect.due("41: restore()", 2, x.restore());
        Expect.due("41: with its forms", "4 1 2; 0 2 0; ", Expect.listing(x));
        x.reset();
        Expect.type(x, "poo");
        Expect.due("41: it stays saved", 2, x.restore());
        Expect.due("41: the same", "4 1 2; 0 2 0; ", Expect.listing(x));
        Expect.due("41: the input stays", 4, x.append('l'));
        x.insert(0);
        Expect.due("40: replaced", 3, x.save());
        x.undo();
        Expect.due("40: undo does not change what was saved", 3, x.restore());
    }

    private static void objectsAreApart() {
        BranchRelaxer x = Expect.program("code 1");
        BranchRelaxer y = Expect.program("code 2", "pool");
        x.save();
        Expect.fails("40: another object saved nothing", IllegalStateException.class, y::restore);
        Expect.due("1: one item", 1, x.itemCount());
        Expect.due("1: two items", 2, y.itemCount());
    }
}
