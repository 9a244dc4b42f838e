import java.util.NoSuchElementException;

/** Promises 12 to 17: sizes, padding and addresses. */
public final class LayoutTest {
    public static void main(String[] args) {
        totalSize();
        padding();
        labelAddress();
        itemAt();
        addressIf();
        possibleAddresses();
        possibleAddressesOfFullPrograms();
        Expect.end();
    }

    private static void totalSize() {
        Expect.due("12: plain items", 12, Expect.program("code 9", "label 1", "data 3").totalSize());
        Expect.due("12: an end pool without padding", 8, Expect.program("load 5", "code 2").totalSize());
        Expect.due("12: an end pool with padding", 12, Expect.program("load 5", "load 6").totalSize());
        Expect.due("12: a pool item without literals", 3, Expect.program("code 3", "pool", "pool").totalSize());
        Expect.due("12: align at the end", 16, Expect.program("code 1", "align 4").totalSize());
        Expect.due("12: align where nothing is needed", 16, Expect.program("data 16", "align 4", "align 1").totalSize());
        BranchRelaxer x = new BranchRelaxer();
        for (int i = 0; i < 40; i++) {
            Expect.add(x, "data 50");
        }
        Expect.due("12: the greatest program", 2000, x.totalSize());
    }

    private static void padding() {
        Expect.due("13: nothing", 0, new BranchRelaxer().padding());
        Expect.due("13: four aligns", 1 + 0 + 3 + 8,
            Expect.program("code 1", "align 1", "align 1", "code 3", "align 3", "align 4").padding());
        Expect.due("13: a pool item and the end pool", 2 + 3,
            Expect.program("load 1", "pool", "load 1", "code 3").padding());
        Expect.due("13: pools without literals have none", 0, Expect.program("code 1", "pool").padding());
        Expect.due("13: the end pool alone", 1, Expect.program("load 0", "code 1").padding());
        Expect.due("13: the end pool behind an align", 2, Expect.program("load 0", "align 2").padding());
    }

    private static void labelAddress() {
        BranchRelaxer x = Expect.program("label 0", "branch 9", "label 9", "align 2", "label 5", "data 4");
        Expect.due("14: label 0", 0, x.labelAddress(0));
        Expect.due("14: label 9", 2, x.labelAddress(9));
        Expect.due("14: label 5", 4, x.labelAddress(5));
        x.setForm(1, 2);
        Expect.due("14: label 9 then", 7, x.labelAddress(9));
        Expect.due("14: label 5 then", 8, x.labelAddress(5));
        Expect.fails("14: label 1", NoSuchElementException.class, () -> x.labelAddress(1));
        Expect.fails("14: label 10", IndexOutOfBoundsException.class, () -> x.labelAddress(10));
        Expect.fails("14: label -1", IndexOutOfBoundsException.class, () -> x.labelAddress(-1));
        x.remove(2);
        Expect.fails("14: label 9 after its removal", NoSuchElementException.class, () -> x.labelAddress(9));
    }

    private static void itemAt() {
        BranchRelaxer x = Expect.program("label 0", "code 2", "label 1", "pool", "load 3", "align 3", "code 1", "label 2");
        int[] due = {1, 1, 4, 4, 5, 5, 5, 5, 6};
        for (int address = 0; address < due.length; address++) {
            Expect.due("15: itemAt(" + address + ")", due[address], x.itemAt(address));
        }
        Expect.fails("15: behind all items", IndexOutOfBoundsException.class, () -> x.itemAt(9));
        Expect.fails("15: in the end pool", IndexOutOfBoundsException.class, () -> x.itemAt(12));
        Expect.fails("15: itemAt(-1)", IndexOutOfBoundsException.class, () -> x.itemAt(-1));
        BranchRelaxer y = Expect.program("label 1", "pool");
        Expect.fails("15: items without bytes", IndexOutOfBoundsException.class, () -> y.itemAt(0));
        BranchRelaxer z = Expect.program("load 1", "pool");
        Expect.due("15: in the padding of a pool item", 1, z.itemAt(3));
        Expect.due("15: in the literals of a pool item", 1, z.itemAt(7));
        Expect.fails("15: behind a pool item", IndexOutOfBoundsException.class, () -> z.itemAt(8));
    }

    private static void addressIf() {
        BranchRelaxer x = Expect.program("jump 1", "branch 2", "align 2", "load 4", "pool", "jump 3");
        x.setForm(1, 1);
        int[][] due = {{0, 2, 4, 4, 6, 12}, {0, 3, 7, 8, 10, 16}, {0, 5, 12, 12, 14, 20}};
        for (int form = 0; form <= 2; form++) {
            for (int i = 0; i < 6; i++) {
                Expect.due("16: addressIf(" + i + ", " + form + ")", due[form][i], x.addressIf(i, form));
            }
        }
        Expect.due("16: the forms stay", "0 1 0", x.item(0, 2) + " " + x.item(1, 2) + " " + x.item(5, 2));
        Expect.fails("16: item 6", IndexOutOfBoundsException.class, () -> x.addressIf(6, 3));
        Expect.fails("16: item -1", IndexOutOfBoundsException.class, () -> x.addressIf(-1, 0));
        Expect.fails("16: form 3", IllegalArgumentException.class, () -> x.addressIf(0, 3));
        Expect.fails("16: form -1", IllegalArgumentException.class, () -> x.addressIf(5, -1));
    }

    private static void possibleAddresses() {
        BranchRelaxer x = Expect.program("code 1", "jump 1", "jump 1", "branch 1", "align 3", "code 1");
        Expect.due("17: the first item", 1, x.possibleAddresses(0));
        Expect.due("17: behind code", 1, x.possibleAddresses(1));
        Expect.due("17: behind a jump", 3, x.possibleAddresses(2));
        // 2, 3, 5 twice: 4, 5, 6, 7, 8, 10
        Expect.due("17: behind two jumps", 6, x.possibleAddresses(3));
        // with 2, 4, 7 and the code: 7 to 18 without 16
        Expect.due("17: behind a branch", 11, x.possibleAddresses(4));
        // 8, 16, 24
        Expect.due("17: behind an align", 3, x.possibleAddresses(5));
        x.setForm(1, 2);
        Expect.due("17: whatever the forms are", 6, x.possibleAddresses(3));
        Expect.fails("17: item 6", IndexOutOfBoundsException.class, () -> x.possibleAddresses(6));
        Expect.fails("17: item -1", IndexOutOfBoundsException.class, () -> x.possibleAddresses(-1));
        BranchRelaxer y = Expect.program("jump 1", "load 1", "load 2", "pool", "code 1");
        // 6, 7 and 9 become 8, 8 and 12, and two literals follow
        Expect.due("17: behind a pool", 2, y.possibleAddresses(4));
        Expect.due("17: before it", 3, y.possibleAddresses(3));
        Expect.due("17: asked once more", 2, y.possibleAddresses(4));
    }

    private static void possibleAddressesOfFullPrograms() {
        BranchRelaxer x = new BranchRelaxer();
        for (int i = 0; i < 40; i++) {
            Expect.add(x, "branch 1");
        }
        // 39 branches add 0, 2 or 5 to 78: all sums up to 195 but 1, 3, 188, 191, 193 and 194.
        Expect.due("17: 39 branches", 190, x.possibleAddresses(39));
        BranchRelaxer y = new BranchRelaxer();
        for (int i = 0; i < 40; i++) {
            Expect.add(y, "data 50");
        }
        Expect.due("17: 39 times 50 bytes", 1, y.possibleAddresses(39));
    }
}
