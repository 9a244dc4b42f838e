import java.util.NoSuchElementException;

/** Promises 1 to 11: the program and its items. */
public final class ProgramTest {
    public static void main(String[] args) {
        newObject();
        reset();
        itemCount();
        append();
        insertOrdinary();
        insertOperands();
        insertOrderOfExceptions();
        insertEmptiesTheInput();
        errorPosition();
        remove();
        move();
        item();
        nameCharacter();
        setForm();
        Expect.end();
    }

    private static void newObject() {
        BranchRelaxer x = new BranchRelaxer();
        Expect.due("1: itemCount()", 0, x.itemCount());
        Expect.due("1: totalSize()", 0, x.totalSize());
        Expect.due("1: append into an empty input", 1, x.append('p'));
        Expect.fails("1: item(0, 0)", IndexOutOfBoundsException.class, () -> x.item(0, 0));
        Expect.fails("1: errorPosition()", NoSuchElementException.class, x::errorPosition);
        Expect.fails("1: undo()", NoSuchElementException.class, x::undo);
        Expect.fails("1: restore()", IllegalStateException.class, x::restore);
    }

    private static void reset() {
        BranchRelaxer x = Expect.program("code 3", "pool");
        Expect.due("2: save()", 2, x.save());
        Expect.type(x, "cox");
        Expect.fails("2: insert of cox", IllegalArgumentException.class, () -> x.insert(0));
        Expect.type(x, "data 7");
        Expect.due("2: reset()", 2, x.reset());
        Expect.due("2: itemCount()", 0, x.itemCount());
        Expect.fails("2: undo() after reset", NoSuchElementException.class, x::undo);
        Expect.due("2: the error position stays", 2, x.errorPosition());
        Expect.due("2: the input stays", 1, x.insert(0));
        Expect.due("2: operand from the input", 7, x.item(0, 1));
        Expect.due("2: undo() of the insert alone", 0, x.undo());
        Expect.due("2: reset() of nothing", 0, x.reset());
        Expect.due("2: what was saved stays", 2, x.restore());
        Expect.due("2: the saved program", "0 3 0; 7 0 0; ", Expect.listing(x));
    }

    private static void itemCount() {
        BranchRelaxer x = new BranchRelaxer();
        for (int i = 0; i < 40; i++) {
            Expect.due("3: itemCount()", i, x.itemCount());
            Expect.add(x, "code 9");
        }
        Expect.due("3: itemCount() at most", 40, x.itemCount());
    }

    private static void append() {
        BranchRelaxer x = new BranchRelaxer();
        Expect.fails("4: append of 31", IllegalArgumentException.class, () -> x.append((char) 31));
        Expect.fails("4: append of 127", IllegalArgumentException.class, () -> x.append((char) 127));
        Expect.fails("4: append of 65535", IllegalArgumentException.class, () -> x.append((char) 65535));
        Expect.due("4: append of 32", 1, x.append((char) 32));
        Expect.due("4: append of 126", 2, x.append((char) 126));
        for (int i = 3; i <= 12; i++) {
            Expect.due("4: append", i, x.append('x'));
        }
        Expect.fails("4: append to 12", IllegalStateException.class, () -> x.append('x'));
        Expect.fails("4: the character comes first", IllegalArgumentException.class, () -> x.append((char) 0));
        Expect.fails("4: 12 characters stay", IllegalStateException.class, () -> x.append('x'));
    }

    private static void insertOrdinary() {
        BranchRelaxer x = new BranchRelaxer();
        String[] texts = {"code 4", "data 50", "label 3", "align 2", "jump 9", "branch 0", "load 99", "pool"};
        for (int kind = 0; kind < texts.length; kind++) {
            Expect.type(x, texts[kind]);
            Expect.due("5: insert of " + texts[kind], kind, x.insert(0));
        }
        Expect.due("5: the newest is first", "7 0 0; 6 99 0; 5 0 0; 4 9 0; 3 2 0; 2 3 0; 1 50 0; 0 4 0; ",
            Expect.listing(x));
        Expect.type(x, "code 09");
        Expect.due("5: insert in the middle", 0, x.insert(3));
        Expect.due("5: before that item", "7 0 0; 6 99 0; 5 0 0; 0 9 0; 4 9 0; 3 2 0; 2 3 0; 1 50 0; 0 4 0; ",
            Expect.listing(x));
        x.setForm(4, 2);
        Expect.type(x, "jump 1");
        x.insert(5);
        Expect.due("5: a new transfer is short", 0, x.item(5, 2));
        Expect.due("5: the form of another stays", 2, x.item(4, 2));
    }

    private static void insertOperands() {
        String[] names = {"code", "data", "label", "align", "jump", "branch", "load"};
        int[] least = {1, 1, 0, 1, 0, 0, 0};
        int[] most = {9, 50, 9, 4, 9, 9, 99};
        for (int kind = 0; kind < names.length; kind++) {
            for (int number = 0; number < 100; number++) {
                BranchRelaxer x = new BranchRelaxer();
                Expect.type(x, names[kind] + " " + number);
                boolean possible = number >= least[kind] && number <= most[kind];
                Expect.due("5: insert of " + names[kind] + " " + number,
                    possible ? "" + kind : "throws.IllegalArgumentException", Expect.outcome(() -> x.insert(0)));
                Expect.due("5: items", possible ? 1 : 0, x.itemCount());
                if (possible) {
                    Expect.due("5: operand", number, x.item(0, 1));
                } else {
                    Expect.fails("5: no error position", NoSuchElementException.class, x::errorPosition);
                }
            }
        }
    }

    private static void insertOrderOfExceptions() {
        BranchRelaxer x = Expect.program("label 3");
        Expect.type(x, "label 3");
        Expect.fails("5: a label twice", IllegalStateException.class, () -> x.insert(1));
        Expect.type(x, "label 03");
        Expect.fails("5: a label twice, written otherwise", IllegalStateException.class, () -> x.insert(1));
        Expect.type(x, "jump 3");
        Expect.due("5: a jump to the label is no definition", 4, x.insert(0));
        x.remove(1);
        Expect.type(x, "label 3");
        Expect.due("5: the label again after its removal", 2, x.insert(1));
        Expect.type(x, "nothing");
        Expect.fails("5: the position comes first", IndexOutOfBoundsException.class, () -> x.insert(3));
        Expect.fails("5: no error position is kept then", NoSuchElementException.class, x::errorPosition);
        Expect.type(x, "pool");
        Expect.fails("5: a negative position", IndexOutOfBoundsException.class, () -> x.insert(-1));
        for (int i = 2; i < 40; i++) {
            Expect.add(x, "code 1");
        }
        Expect.type(x, "pool");
        Expect.fails("5: 41 items", IllegalStateException.class, () -> x.insert(40));
        Expect.type(x, "code 0");
        Expect.fails("5: the operand before the room", IllegalArgumentException.class, () -> x.insert(40));
        Expect.type(x, "pool ");
        Expect.fails("5: the text before the room", IllegalArgumentException.class, () -> x.insert(40));
        Expect.due("5: the error position", 4, x.errorPosition());
        Expect.type(x, "pool");
        Expect.fails("5: position 41 before the room", IndexOutOfBoundsException.class, () -> x.insert(41));
        Expect.due("5: still 40 items", 40, x.itemCount());
    }

    private static void insertEmptiesTheInput() {
        BranchRelaxer x = new BranchRelaxer();
        Expect.type(x, "pool");
        x.insert(0);
        Expect.due("5: empty after an item", 1, x.append('x'));
        Expect.fails("5: not an item", IllegalArgumentException.class, () -> x.insert(0));
        Expect.due("5: empty after a wrong text", 1, x.append('x'));
        Expect.fails("5: wrong position", IndexOutOfBoundsException.class, () -> x.insert(7));
        Expect.due("5: empty after a wrong position", 1, x.append('c'));
        Expect.type(x, "ode 0");
        Expect.fails("5: wrong operand", IllegalArgumentException.class, () -> x.insert(0));
        Expect.due("5: empty after a wrong operand", 1, x.append('l'));
        Expect.type(x, "abel 1");
        x.insert(0);
        Expect.type(x, "label 1");
        Expect.fails("5: label twice", IllegalStateException.class, () -> x.insert(0));
        Expect.due("5: empty after a wrong state", 1, x.append('x'));
        Expect.due("5: two items in all", 2, x.itemCount());
    }

    private static void errorPosition() {
        String[] texts = {
            "", "x", "Code 1", "c", "cod", "code", "code1", "code ", "code  1", "code a", "code 1a", "code 1 ",
            "code 12 ", "code 123", "lo 1", "la", "label 1x", "lx", "pool ", "pool 1", "poo", "branch 111111", " code 1",
            "codedata 1", "jump -1", "align 4.", "branch 1", "load/1", "load 1/", "load 1:", "data :",
        };
        int[] due = {
            0, 0, 0, 1, 3, 4, 4, 5, 5, 5, 6, 6,
            7, 7, 2, 2, 7, 1, 4, 4, 3, 9, 0,
            4, 5, 7, -1, 4, 6, 6, 5,
        };
        for (int i = 0; i < texts.length; i++) {
            BranchRelaxer x = new BranchRelaxer();
            Expect.type(x, texts[i].length() > 12 ? texts[i].substring(0, 12) : texts[i]);
            String insert = Expect.outcome(() -> x.insert(0));
            Expect.due("6: insert of " + texts[i], due[i] < 0 ? "5" : "throws.IllegalArgumentException", insert);
            Expect.due("6: error in " + texts[i], due[i] < 0 ? "throws.NoSuchElementException" : "" + due[i],
                Expect.outcome(x::errorPosition));
        }
        BranchRelaxer x = new BranchRelaxer();
        Expect.type(x, "jumq");
        Expect.fails("6: jumq", IllegalArgumentException.class, () -> x.insert(0));
        Expect.add(x, "pool");
        Expect.type(x, "code 10");
        Expect.fails("6: code 10", IllegalArgumentException.class, () -> x.insert(0));
        Expect.due("6: kept behind an item and a wrong operand", 3, x.errorPosition());
        Expect.due("6: asked again", 3, x.errorPosition());
        x.undo();
        Expect.due("6: kept behind undo", 3, x.errorPosition());
    }

    private static void remove() {
        BranchRelaxer x = Expect.program("code 1", "jump 2", "code 3");
        x.setForm(1, 1);
        Expect.fails("7: remove(3)", IndexOutOfBoundsException.class, () -> x.remove(3));
        Expect.fails("7: remove(-1)", IndexOutOfBoundsException.class, () -> x.remove(-1));
        Expect.due("7: remove(0)", 2, x.remove(0));
        Expect.due("7: what remains", "4 2 1; 0 3 0; ", Expect.listing(x));
        Expect.due("7: remove(1)", 1, x.remove(1));
        Expect.due("7: what remains", "4 2 1; ", Expect.listing(x));
        Expect.due("7: remove of the last one", 0, x.remove(0));
        Expect.fails("7: remove from nothing", IndexOutOfBoundsException.class, () -> x.remove(0));
    }

    private static void move() {
        BranchRelaxer x = Expect.program("code 1", "branch 2", "code 3", "code 4");
        x.setForm(1, 2);
        Expect.due("8: move(1, 3)", 5, x.move(1, 3));
        Expect.due("8: behind", "0 1 0; 0 3 0; 0 4 0; 5 2 2; ", Expect.listing(x));
        Expect.due("8: move(3, 0)", 5, x.move(3, 0));
        Expect.due("8: before", "5 2 2; 0 1 0; 0 3 0; 0 4 0; ", Expect.listing(x));
        Expect.due("8: move(2, 2)", 0, x.move(2, 2));
        Expect.due("8: at its place", "5 2 2; 0 1 0; 0 3 0; 0 4 0; ", Expect.listing(x));
        Expect.due("8: move(1, 2)", 0, x.move(1, 2));
        Expect.due("8: one further", "5 2 2; 0 3 0; 0 1 0; 0 4 0; ", Expect.listing(x));
        Expect.fails("8: move(0, 4)", IndexOutOfBoundsException.class, () -> x.move(0, 4));
        Expect.fails("8: move(4, 0)", IndexOutOfBoundsException.class, () -> x.move(4, 0));
        Expect.fails("8: move(-1, 0)", IndexOutOfBoundsException.class, () -> x.move(-1, 0));
        Expect.fails("8: move(0, -1)", IndexOutOfBoundsException.class, () -> x.move(0, -1));
        Expect.due("8: unchanged", "5 2 2; 0 3 0; 0 1 0; 0 4 0; ", Expect.listing(x));
        while (x.itemCount() < 40) {
            Expect.add(x, "data 5");
        }
        Expect.due("8: move in a full program", 5, x.move(0, 39));
        Expect.due("8: its form at the end", 2, x.item(39, 2));
        Expect.due("8: still 40 items", 40, x.itemCount());
    }

    private static void item() {
        BranchRelaxer x = Expect.program("code 3", "label 1", "jump 1", "branch 1", "align 3", "load 7", "pool", "data 50");
        int[] kinds = {0, 2, 4, 5, 3, 6, 7, 1};
        int[] operands = {3, 1, 1, 1, 3, 7, 0, 50};
        int[] sizes = {3, 0, 2, 2, 1, 2, 6, 50};
        int[] addresses = {0, 3, 3, 5, 7, 8, 10, 16};
        for (int i = 0; i < kinds.length; i++) {
            Expect.due("9: kind of " + i, kinds[i], x.item(i, 0));
            Expect.due("9: operand of " + i, operands[i], x.item(i, 1));
            Expect.due("9: form of " + i, 0, x.item(i, 2));
            Expect.due("9: size of " + i, sizes[i], x.item(i, 3));
            Expect.due("9: address of " + i, addresses[i], x.item(i, 4));
        }
        int[] jumps = {2, 3, 5};
        int[] branches = {2, 4, 7};
        for (int form = 0; form <= 2; form++) {
            x.setForm(2, form);
            x.setForm(3, form);
            Expect.due("9: form of the jump", form, x.item(2, 2));
            Expect.due("9: size of a jump", jumps[form], x.item(2, 3));
            Expect.due("9: size of a branch", branches[form], x.item(3, 3));
            Expect.due("9: address behind both", 3 + jumps[form] + branches[form], x.item(4, 4));
        }
        Expect.fails("9: item(8, 0)", IndexOutOfBoundsException.class, () -> x.item(8, 0));
        Expect.fails("9: item(-1, 0)", IndexOutOfBoundsException.class, () -> x.item(-1, 0));
        Expect.fails("9: item(0, 5)", IllegalArgumentException.class, () -> x.item(0, 5));
        Expect.fails("9: item(0, -1)", IllegalArgumentException.class, () -> x.item(0, -1));
        Expect.fails("9: the item comes first", IndexOutOfBoundsException.class, () -> x.item(8, 5));
    }

    private static void nameCharacter() {
        String[] names = {"code", "data", "label", "align", "jump", "branch", "load", "pool"};
        BranchRelaxer x = Expect.program("code 1", "data 1", "label 1", "align 1", "jump 1", "branch 1", "load 1", "pool");
        for (int i = 0; i < names.length; i++) {
            int item = i;
            for (int k = 0; k < names[i].length(); k++) {
                Expect.due("10: a character of " + names[i], names[i].charAt(k), x.nameCharacter(i, k));
            }
            Expect.fails("10: behind " + names[i], NoSuchElementException.class,
                () -> x.nameCharacter(item, names[item].length()));
            Expect.fails("10: before " + names[i], NoSuchElementException.class, () -> x.nameCharacter(item, -1));
        }
        Expect.fails("10: item 8", IndexOutOfBoundsException.class, () -> x.nameCharacter(8, 0));
        Expect.fails("10: item -1", IndexOutOfBoundsException.class, () -> x.nameCharacter(-1, 99));
    }

    private static void setForm() {
        BranchRelaxer x = Expect.program("jump 1", "code 1", "branch 1");
        Expect.due("11: setForm(0, 2)", 0, x.setForm(0, 2));
        Expect.due("11: setForm(0, 1)", 2, x.setForm(0, 1));
        Expect.due("11: setForm(2, 1)", 0, x.setForm(2, 1));
        Expect.due("11: forms", "4 1 1; 0 1 0; 5 1 1; ", Expect.listing(x));
        Expect.fails("11: no transfer", IllegalArgumentException.class, () -> x.setForm(1, 0));
        Expect.fails("11: form 3", IllegalArgumentException.class, () -> x.setForm(0, 3));
        Expect.fails("11: form -1", IllegalArgumentException.class, () -> x.setForm(0, -1));
        Expect.fails("11: item 3", IndexOutOfBoundsException.class, () -> x.setForm(3, 3));
        Expect.fails("11: item -1", IndexOutOfBoundsException.class, () -> x.setForm(-1, 0));
        Expect.due("11: forms stay", "4 1 1; 0 1 0; 5 1 1; ", Expect.listing(x));
        Expect.due("11: the same form again", 1, x.setForm(0, 1));
        Expect.due("11: that is a change too", 6, x.undo());
    }
}
