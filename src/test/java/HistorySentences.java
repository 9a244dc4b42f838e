import java.util.NoSuchElementException;

/** The sentences of the promises 39 to 41: history and saving. */
final class HistorySentences {
    private HistorySentences() {
    }

    static void all() {
        undo();
        save();
        restore();
    }

    private static void undo() {
        Sentences.holds("39", "Makes the program what it was before the latest change that is remembered.", () -> {
            BranchRelaxer x = Expect.program("jump 1", "label 1", "code 5");
            x.setForm(0, 2);
            x.remove(1);
            x.undo();
            Expect.due("before remove", "4 1 2; 2 1 0; 0 5 0; ", Expect.listing(x));
            x.undo();
            Expect.due("before setForm", "4 1 0; 2 1 0; 0 5 0; ", Expect.listing(x));
            x.undo();
            Expect.due("before insert", "4 1 0; 2 1 0; ", Expect.listing(x));
            x.undo();
            x.undo();
            Expect.due("before the first insert", "", Expect.listing(x));
            BranchRelaxer full = Expect.times(40, "pool");
            full.remove(0);
            full.undo();
            Expect.due("the items of a full program", 40, full.itemCount());
            full.undo();
            Expect.due("the items before the last insert", 39, full.itemCount());
        });
        Sentences.holds("39", "Returns the number of changes that are still remembered.", () -> {
            BranchRelaxer x = new BranchRelaxer();
            for (int i = 0; i < 12; i++) {
                Expect.add(x, "pool");
            }
            for (int left = 9; left >= 4; left--) {
                Expect.due("undo", left, x.undo());
            }
            Expect.add(x, "pool", "pool");
            for (int left = 5; left >= 0; left--) {
                Expect.due("undo after two changes more", left, x.undo());
            }
            Expect.due("the items that can't be undone", 2, x.itemCount());
        });
        Sentences.holds("39", "Throws `NoSuchElementException` if no change is remembered", () -> {
            BranchRelaxer x = new BranchRelaxer();
            Expect.fails("undo of nothing", NoSuchElementException.class, x::undo);
            Expect.add(x, "pool");
            Expect.due("undo", 0, x.undo());
            Expect.fails("undo again", NoSuchElementException.class, x::undo);
            Expect.fails("undo once more", NoSuchElementException.class, x::undo);
            for (int i = 0; i < 11; i++) {
                Expect.add(x, "pool");
            }
            for (int i = 0; i < 10; i++) {
                x.undo();
            }
            Expect.fails("undo of an eleventh change", NoSuchElementException.class, x::undo);
            Expect.due("the item of it", 1, x.itemCount());
            x.save();
            Expect.fails("undo after save", NoSuchElementException.class, x::undo);
        });
    }

    private static void save() {
        Sentences.holds("40", "Saves the program with its forms.", () -> {
            BranchRelaxer x = Expect.program("jump 1", "branch 2", "load 3");
            x.setForm(0, 2);
            x.setForm(1, 1);
            x.save();
            x.setForm(0, 0);
            x.move(0, 2);
            x.remove(0);
            x.restore();
            Expect.due("what was saved", "4 1 2; 5 2 1; 6 3 0; ", Expect.listing(x));
        });
        Sentences.holds("40", "What was saved before is replaced.", () -> {
            BranchRelaxer x = Expect.times(3, "pool");
            x.save();
            x.reset();
            Expect.add(x, "code 4");
            x.save();
            x.reset();
            Expect.due("a smaller program", 1, x.restore());
            Expect.due("what was saved last", "0 4 0; ", Expect.listing(x));
            x.reset();
            Expect.due("save of nothing", 0, x.save());
            Expect.add(x, "code 5");
            Expect.due("restore of nothing", 0, x.restore());
        });
        Sentences.holds("40", "Returns the number of items.", () -> {
            Expect.due("save of nothing", 0, new BranchRelaxer().save());
            Expect.due("save of one", 1, Expect.program("pool").save());
            Expect.due("save of 40", 40, Expect.times(40, "pool").save());
        });
    }

    private static void restore() {
        Sentences.holds("41", "It stays saved.", () -> {
            BranchRelaxer x = Expect.program("jump 1");
            x.setForm(0, 1);
            x.save();
            for (int i = 0; i < 3; i++) {
                x.setForm(0, 2);
                Expect.add(x, "code " + (i + 1));
                Expect.due("restore", 1, x.restore());
                Expect.due("what was saved", "4 1 1; ", Expect.listing(x));
            }
            x.remove(0);
            x.undo();
            x.reset();
            Expect.due("restore after remove, undo and reset", 1, x.restore());
        });
        Sentences.holds("41", "Returns the number of items.", () -> {
            BranchRelaxer x = new BranchRelaxer();
            x.save();
            Expect.due("restore of nothing", 0, x.restore());
            BranchRelaxer full = Expect.times(40, "pool");
            full.save();
            Expect.due("restore of 40 over 40", 40, full.restore());
            full.reset();
            Expect.due("restore of 40", 40, full.restore());
        });
        Sentences.holds("41", "Throws `IllegalStateException` if nothing was saved", () -> {
            BranchRelaxer x = new BranchRelaxer();
            Expect.fails("a new object", IllegalStateException.class, x::restore);
            Expect.add(x, "jump 1");
            Expect.fails("with a program", IllegalStateException.class, x::restore);
            x.reset();
            Expect.fails("after reset", IllegalStateException.class, x::restore);
            x.save();
            Expect.due("nothing but saved", 0, x.restore());
        });
    }
}
