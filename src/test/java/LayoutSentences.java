import java.util.NoSuchElementException;

/** The sentences of the promises 12 to 17: layout. */
final class LayoutSentences {
    private static final Class<IndexOutOfBoundsException> INDEX = IndexOutOfBoundsException.class;
    private static final Class<IllegalArgumentException> ARGUMENT = IllegalArgumentException.class;
    private static final Class<NoSuchElementException> ELEMENT = NoSuchElementException.class;

    private LayoutSentences() {
    }

    static void all() {
        sizes();
        labelAddress();
        itemAt();
        addressIf();
        possibleAddresses();
    }

    private static void sizes() {
        Sentences.holds("12", "Returns the total size.", () -> {
            Expect.due("of nothing", 0, new BranchRelaxer().totalSize());
            Expect.due("of items without bytes", 0, Expect.program("label 1", "align 4", "pool", "align 1").totalSize());
            Expect.due("of the most items", 2000, Expect.times(40, "data 50").totalSize());
            // 80 bytes of loads and 40 literals
            BranchRelaxer loads = new BranchRelaxer();
            for (int i = 0; i < 40; i++) {
                Expect.add(loads, "load " + i);
            }
            Expect.due("of 40 loads", 80 + 160, loads.totalSize());
            BranchRelaxer x = Expect.times(39, "branch 1");
            for (int i = 0; i < 39; i++) {
                x.setForm(i, 2);
            }
            Expect.due("of 39 far branches", 39 * 7, x.totalSize());
        });
        Sentences.holds("13", "Returns the sum of the sizes of all align items and of the padding in all pools.", () -> {
            Expect.due("of nothing", 0, new BranchRelaxer().padding());
            Expect.due("of items without any", 0, Expect.program("data 50", "label 1", "jump 1", "code 9").padding());
            Expect.due("an align that has nothing to do", 0, Expect.program("align 4", "data 16", "align 4").padding());
            Expect.due("the most for an align", 15, Expect.program("code 1", "align 4").padding());
            Expect.due("a pool item", 2, Expect.program("load 1", "pool").padding());
            Expect.due("a pool item without need", 0, Expect.program("load 1", "code 2", "pool").padding());
            Expect.due("the end pool", 3, Expect.program("load 1", "code 3").padding());
            Expect.due("pools without literals", 0, Expect.program("code 1", "pool", "code 1", "pool").padding());
            Expect.due("all of them", 1 + 3 + 2,
                Expect.program("code 1", "align 1", "load 1", "code 1", "pool", "load 1", "load 2", "load 1").padding());
        });
    }

    private static void labelAddress() {
        Sentences.holds("14", "- `label`: the label, 0 to 9", () -> {
            BranchRelaxer x = Expect.program("code 1", "label 0", "code 1", "label 9");
            Expect.due("label 0", 1, x.labelAddress(0));
            Expect.due("label 9", 2, x.labelAddress(9));
            Expect.due("at the beginning", 0, Expect.program("label 5", "code 1").labelAddress(5));
        });
        Sentences.holds("14", "Throws `IndexOutOfBoundsException` if label is out of range", () -> {
            Expect.refuses("labelAddress of nothing", 9, INDEX, new BranchRelaxer()::labelAddress);
            Expect.refuses("labelAddress", 9, INDEX, Expect.program("label 0", "label 9")::labelAddress);
        });
        Sentences.holds("14", "Throws `NoSuchElementException` if the label is not defined", () -> {
            BranchRelaxer x = Expect.program("label 5", "jump 0", "branch 9", "load 4");
            for (int label = 0; label <= 9; label++) {
                int asked = label;
                Expect.due("label " + label, label == 5 ? "0" : "throws.NoSuchElementException",
                    Expect.outcome(() -> x.labelAddress(asked)));
            }
            x.remove(0);
            Expect.fails("after its removal", ELEMENT, () -> x.labelAddress(5));
            x.undo();
            Expect.due("after undo", 0, x.labelAddress(5));
            x.reset();
            Expect.fails("after reset", ELEMENT, () -> x.labelAddress(5));
        });
    }

    private static void itemAt() {
        Sentences.holds("15", "Returns the item that lies at an address: the last one whose address is at most the given one.",
            () -> {
                BranchRelaxer x = Expect.program("align 4", "label 0", "code 2", "label 1", "align 1", "pool", "code 1", "align 2",
                    "label 2", "jump 1", "label 3");
                int[] due = {2, 2, 6, 7, 9, 9};
                for (int address = 0; address < due.length; address++) {
                    Expect.due("itemAt " + address, due[address], x.itemAt(address));
                }
                BranchRelaxer full = Expect.times(40, "data 50");
                Expect.due("the first byte of 40 items", 0, full.itemAt(0));
                Expect.due("the last byte of the first", 0, full.itemAt(49));
                Expect.due("the first byte of the second", 1, full.itemAt(50));
                Expect.due("the last byte of all", 39, full.itemAt(1999));
            });
        Sentences.holds("15", "Throws `IndexOutOfBoundsException` if the address is negative, or not less than the size of all items "
            + "together, the end pool not included", () -> {
                Expect.refuses("itemAt in nothing", -1, INDEX, new BranchRelaxer()::itemAt);
                Expect.refuses("itemAt in items without bytes", -1, INDEX, Expect.program("label 1", "pool")::itemAt);
                Expect.refuses("itemAt before the end pool", 1, INDEX, Expect.program("load 1")::itemAt);
                Expect.fails("itemAt in the end pool", INDEX, () -> Expect.program("load 1").itemAt(4));
                BranchRelaxer pool = Expect.program("load 1", "pool");
                Expect.refuses("itemAt behind a pool item", 7, INDEX, pool::itemAt);
                Expect.due("the last byte of a pool item", 1, pool.itemAt(7));
                Expect.refuses("itemAt behind an align", 15, INDEX, Expect.program("code 1", "align 4")::itemAt);
                BranchRelaxer x = Expect.program("jump 1");
                x.setForm(0, 2);
                Expect.due("the last byte of a far jump", 0, x.itemAt(4));
                Expect.refuses("itemAt behind a far jump", 4, INDEX, x::itemAt);
            });
    }

    private static void addressIf() {
        Sentences.holds("16", "- `form`: the form, 0 to 2", () -> {
            BranchRelaxer x = Expect.program("jump 1", "branch 1", "align 1", "code 1", "load 1", "pool", "code 1");
            x.setForm(0, 2);
            int[] behindJump = {2, 3, 5};
            int[] behindBranch = {4, 7, 12};
            int[] behindAlign = {4, 8, 12};
            int[] behindPool = {12, 16, 20};
            for (int form = 0; form <= 2; form++) {
                Expect.due("the first item", 0, x.addressIf(0, form));
                Expect.due("behind a jump", behindJump[form], x.addressIf(1, form));
                Expect.due("behind a branch", behindBranch[form], x.addressIf(2, form));
                Expect.due("behind an align", behindAlign[form], x.addressIf(3, form));
                Expect.due("behind a pool", behindPool[form], x.addressIf(6, form));
            }
        });
        Sentences.holds("16", "Throws `IndexOutOfBoundsException` if there is no such item", () -> {
            Expect.refuses("addressIf in nothing", -1, INDEX, item -> new BranchRelaxer().addressIf(item, 0));
            BranchRelaxer x = Expect.times(3, "jump 1");
            Expect.refuses("addressIf", 2, INDEX, item -> x.addressIf(item, 2));
            BranchRelaxer full = Expect.times(40, "pool");
            Expect.refuses("addressIf of 40", 39, INDEX, item -> full.addressIf(item, 0));
            Expect.due("the last of 40", 0, full.addressIf(39, 0));
        });
        Sentences.holds("16", "Throws `IllegalArgumentException` if form is out of range", () -> {
            BranchRelaxer x = Expect.program("code 1", "jump 1");
            Expect.refuses("addressIf of the first", 2, ARGUMENT, form -> x.addressIf(0, form));
            Expect.refuses("addressIf of a jump", 2, ARGUMENT, form -> x.addressIf(1, form));
        });
    }

    private static void possibleAddresses() {
        Sentences.holds("17", "Returns the number of different addresses that an item could have if the form of each transfer could "
            + "be chosen freely.", () -> {
                BranchRelaxer x = Expect.program("branch 1", "jump 1", "align 4", "load 1", "pool", "code 1", "jump 9");
                // 0; 2 4 7; with 2 3 5: 4 5 6 7 9 10 12; all 16 behind the align
                int[] due = {1, 3, 7, 1, 1, 1, 1};
                for (int i = 0; i < due.length; i++) {
                    Expect.due("possibleAddresses of " + i, due[i], x.possibleAddresses(i));
                }
                x.remove(2);
                // 4 5 6 7 9 10 12 and the load: 6 7 8 9 11 12 14; the literal at 8, 12 or 16
                Expect.due("before a pool", 7, x.possibleAddresses(3));
                Expect.due("behind a pool", 3, x.possibleAddresses(4));
                Expect.due("behind items without bytes", 1,
                    Expect.program("label 1", "align 4", "pool", "code 1").possibleAddresses(3));
                BranchRelaxer changed = Expect.program("code 4", "pool");
                Expect.due("behind code", 1, changed.possibleAddresses(1));
                changed.remove(0);
                Expect.type(changed, "jump 1");
                changed.insert(0);
                Expect.due("behind a jump in its place", 3, changed.possibleAddresses(1));
                Expect.due("before it again", 1, changed.possibleAddresses(0));
                Expect.due("without transfers", 1, Expect.times(40, "data 50").possibleAddresses(39));
                Expect.due("behind 39 jumps", jumpSums(39), Expect.times(40, "jump 1").possibleAddresses(39));
            });
        Sentences.holds("17", "Throws `IndexOutOfBoundsException` if there is no such item", () -> {
            Expect.refuses("possibleAddresses in nothing", -1, INDEX, new BranchRelaxer()::possibleAddresses);
            Expect.refuses("possibleAddresses", 1, INDEX, Expect.program("jump 1", "jump 1")::possibleAddresses);
            Expect.refuses("possibleAddresses of 40", 39, INDEX, Expect.times(40, "pool")::possibleAddresses);
        });
    }

    /** How many different sums so many sizes of 2, 3 or 5 have. */
    private static int jumpSums(int jumps) {
        boolean[] sums = new boolean[5 * jumps + 1];
        for (int near = 0; near <= jumps; near++) {
            for (int far = 0; near + far <= jumps; far++) {
                sums[2 * jumps + near + 3 * far] = true;
            }
        }
        int number = 0;
        for (boolean sum : sums) {
            number += sum ? 1 : 0;
        }
        return number;
    }
}
