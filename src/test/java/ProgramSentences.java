import java.util.ArrayList;
import java.util.List;
import java.util.NoSuchElementException;

/** The sentences of the promises 1 to 11: the program and its items. */
final class ProgramSentences {
    private static final Class<IndexOutOfBoundsException> INDEX = IndexOutOfBoundsException.class;
    private static final Class<IllegalArgumentException> ARGUMENT = IllegalArgumentException.class;
    private static final Class<IllegalStateException> STATE = IllegalStateException.class;
    private static final Class<NoSuchElementException> ELEMENT = NoSuchElementException.class;

    private ProgramSentences() {
    }

    static void all() {
        newObjectAndReset();
        append();
        insert();
        insertRefuses();
        errorPosition();
        remove();
        move();
        item();
        nameCharacter();
        setForm();
    }

    private static void newObjectAndReset() {
        Sentences.holds("1", "Creates an object with an empty program.", () -> {
            BranchRelaxer x = new BranchRelaxer();
            Expect.due("itemCount", 0, x.itemCount());
            Expect.due("totalSize", 0, x.totalSize());
            Expect.due("poolCount", 0, x.poolCount());
            Expect.due("transferCount", 0, x.transferCount());
            Expect.refuses("item", -1, INDEX, i -> x.item(i, 0));
            Expect.fails("undo", ELEMENT, x::undo);
            Expect.fails("restore", STATE, x::restore);
            Expect.fails("errorPosition", ELEMENT, x::errorPosition);
            Expect.due("append to an empty input", 1, x.append('p'));
        });
        Sentences.holds("2", "Makes the program empty.", () -> {
            BranchRelaxer x = Expect.times(40, "pool");
            x.reset();
            Expect.due("itemCount", 0, x.itemCount());
            Expect.fails("item 0", INDEX, () -> x.item(0, 0));
            Expect.add(x, "label 3");
            Expect.due("the only item", "2 3 0; ", Expect.listing(x));
        });
        Sentences.holds("2", "The input, the error position and what was saved stay.", () -> {
            BranchRelaxer x = Expect.program("branch 2");
            x.setForm(0, 1);
            x.save();
            Expect.type(x, "align 1?");
            Expect.fails("insert", ARGUMENT, () -> x.insert(0));
            Expect.type(x, "data 4");
            x.reset();
            Expect.due("the error position", 7, x.errorPosition());
            Expect.due("the length of the input", 7, x.append('2'));
            Expect.due("the input", 1, x.insert(0));
            Expect.due("its number", 42, x.item(0, 1));
            x.reset();
            Expect.due("what was saved", 1, x.restore());
            Expect.due("its form", "5 2 1; ", Expect.listing(x));
        });
        Sentences.holds("2", "Returns the number of items that it had.", () -> {
            BranchRelaxer x = new BranchRelaxer();
            Expect.due("of none", 0, x.reset());
            Expect.add(x, "pool");
            Expect.due("of one", 1, x.reset());
            Expect.due("of none again", 0, x.reset());
            Expect.due("of 40", 40, Expect.times(40, "pool").reset());
        });
        Sentences.holds("3", "Returns 0 to 40.", () -> {
            BranchRelaxer x = new BranchRelaxer();
            for (int i = 0; i < 40; i++) {
                Expect.due("itemCount", i, x.itemCount());
                Expect.add(x, "pool");
            }
            Expect.due("itemCount at most", 40, x.itemCount());
            Expect.type(x, "pool");
            Expect.fails("one more", STATE, () -> x.insert(0));
            Expect.due("itemCount still", 40, x.itemCount());
        });
    }

    private static void append() {
        Sentences.holds("4", "- `character`: the character, with a code from 32 to 126", () -> {
            for (int code = 32; code <= 126; code++) {
                Expect.due("append of " + code, 1, new BranchRelaxer().append((char) code));
            }
        });
        Sentences.holds("4", "Returns the new length of the input.", () -> {
            BranchRelaxer x = new BranchRelaxer();
            for (int length = 1; length <= 12; length++) {
                Expect.due("append", length, x.append(' '));
            }
        });
        Sentences.holds("4", "Throws `IllegalArgumentException` if the character code is out of range", () -> {
            BranchRelaxer x = new BranchRelaxer();
            for (int code : new int[] {0, 9, 10, 31, 127, 128, 159, 160, 255, 256, 32 + 256, 32767, 32768, 65535}) {
                Expect.fails("append of " + code, ARGUMENT, () -> x.append((char) code));
            }
            Expect.due("nothing was appended", 1, x.append('~'));
        });
        Sentences.holds("4", "Throws `IllegalStateException` if the input has 12 characters", () -> {
            BranchRelaxer x = new BranchRelaxer();
            Expect.type(x, "pool5678901");
            Expect.due("the 12th", 12, x.append('2'));
            Expect.fails("the 13th", STATE, () -> x.append('3'));
            Expect.fails("the 13th again", STATE, () -> x.append('~'));
            Expect.outcome(() -> x.insert(0));
            Expect.due("after an insert", 1, x.append('p'));
        });
    }

    private static void insert() {
        Sentences.holds("5", "Inserts the item in the input before an item, or at the end.", () -> {
            BranchRelaxer x = new BranchRelaxer();
            insertAt(x, "code 1", 0);
            insertAt(x, "code 2", 1);
            insertAt(x, "code 3", 0);
            insertAt(x, "code 4", 1);
            insertAt(x, "code 5", 3);
            insertAt(x, "code 6", 5);
            Expect.due("the items", "0 3 0; 0 4 0; 0 1 0; 0 5 0; 0 2 0; 0 6 0; ", Expect.listing(x));
            BranchRelaxer full = Expect.times(38, "pool");
            insertAt(full, "code 7", 38);
            insertAt(full, "code 8", 0);
            Expect.due("the first of 40", 8, full.item(0, 1));
            Expect.due("the second of 40", 7, full.item(1, 0));
            Expect.due("the last of 40", 7, full.item(39, 1));
        });
        Sentences.holds("5", "The input is empty afterwards, whatever happens.", () -> {
            Expect.due("an item", "7 then 1", insertThenAppend(new BranchRelaxer(), "pool", 0));
            Expect.due("a wrong position", "throws.IndexOutOfBoundsException then 1",
                insertThenAppend(new BranchRelaxer(), "pool", 1));
            Expect.due("no item", "throws.IllegalArgumentException then 1",
                insertThenAppend(new BranchRelaxer(), "pox", 0));
            Expect.due("12 characters", "throws.IllegalArgumentException then 1",
                insertThenAppend(new BranchRelaxer(), "label 123456", 0));
            Expect.due("nothing", "throws.IllegalArgumentException then 1", insertThenAppend(new BranchRelaxer(), "", 0));
            Expect.due("a wrong number", "throws.IllegalArgumentException then 1",
                insertThenAppend(new BranchRelaxer(), "label 10", 0));
            Expect.due("a label twice", "throws.IllegalStateException then 1",
                insertThenAppend(Expect.program("label 1"), "label 1", 0));
            Expect.due("41 items", "throws.IllegalStateException then 1",
                insertThenAppend(Expect.times(40, "pool"), "pool", 0));
        });
        Sentences.holds("5", "- `position`: the number that the new item gets, 0 to the number of items", () -> {
            for (int count = 0; count <= 4; count++) {
                for (int position = 0; position <= count; position++) {
                    BranchRelaxer x = Expect.times(count, "pool");
                    insertAt(x, "load 77", position);
                    Expect.due("items", count + 1, x.itemCount());
                    Expect.due("item " + position, 77, x.item(position, 1));
                }
            }
            BranchRelaxer x = Expect.times(39, "pool");
            insertAt(x, "load 77", 39);
            Expect.due("item 39", 77, x.item(39, 1));
        });
    }

    private static void insertAt(BranchRelaxer x, String text, int position) {
        Expect.type(x, text);
        x.insert(position);
    }

    private static String insertThenAppend(BranchRelaxer x, String text, int position) {
        Expect.type(x, text);
        return Expect.outcome(() -> x.insert(position)) + " then " + x.append('p');
    }

    private static void insertRefuses() {
        Sentences.holds("5", "Throws `IndexOutOfBoundsException` if position is out of range", () -> {
            for (int count : new int[] {0, 1, 3, 39, 40}) {
                BranchRelaxer x = Expect.times(count, "pool");
                Expect.refuses("insert into " + count, count, INDEX, position -> {
                    Expect.type(x, "code 1");
                    return x.insert(position);
                });
                Expect.due("items", count, x.itemCount());
            }
        });
        Sentences.holds("5", "Throws `IllegalArgumentException` if the input is not an item, in which case the error position is "
            + "kept for errorPosition, or the number is not possible as the operand", () -> {
                BranchRelaxer x = Expect.program("code 1");
                Expect.fails("insert of nothing", ARGUMENT, () -> x.insert(0));
                Expect.due("its error position", 0, x.errorPosition());
                Expect.type(x, "label");
                Expect.fails("insert of label", ARGUMENT, () -> x.insert(1));
                Expect.due("its error position", 5, x.errorPosition());
                Expect.type(x, "code 10");
                Expect.fails("insert of code 10", ARGUMENT, () -> x.insert(1));
                Expect.due("the error position before", 5, x.errorPosition());
                Expect.due("items", 1, x.itemCount());
            });
        Sentences.holds("5",
            "Throws `IllegalStateException` if there are 40 items, or the item is a label that is defined already", () -> {
                BranchRelaxer x = Expect.times(38, "pool");
                insertAt(x, "label 5", 20);
                Expect.type(x, "label 5");
                Expect.fails("a label twice", STATE, () -> x.insert(39));
                Expect.type(x, "label 5");
                Expect.fails("a label twice, before it", STATE, () -> x.insert(0));
                insertAt(x, "label 6", 39);
                for (String text : new String[] {"pool", "code 1", "label 7", "label 5"}) {
                    Expect.type(x, text);
                    Expect.fails(text + " as the 41st", STATE, () -> x.insert(40));
                }
                Expect.due("items", 40, x.itemCount());
            });
    }

    private static void errorPosition() {
        Sentences.holds("6", "Returns the error position that was kept last.", () -> {
            BranchRelaxer x = new BranchRelaxer();
            String[] texts = {"branch 1?", "", "code 1", "co", "code 0"};
            int[] due = {8, 0, 0, 2, 2};
            for (int i = 0; i < texts.length; i++) {
                Expect.type(x, texts[i]);
                Expect.outcome(() -> x.insert(0));
                Expect.due("errorPosition after '" + texts[i] + "'", due[i], x.errorPosition());
                Expect.due("errorPosition again", due[i], x.errorPosition());
            }
            Expect.type(x, "branc?");
            Expect.fails("a wrong position", INDEX, () -> x.insert(9));
            Expect.due("errorPosition after it", 2, x.errorPosition());
            x.save();
            x.reset();
            x.restore();
            Expect.add(x, "pool");
            x.undo();
            Expect.due("errorPosition after reset, restore and undo", 2, x.errorPosition());
        });
        Sentences.holds("6", "Throws `NoSuchElementException` if none was kept", () -> {
            BranchRelaxer x = new BranchRelaxer();
            Expect.fails("a new object", ELEMENT, x::errorPosition);
            Expect.add(x, "label 1");
            Expect.fails("after an insert", ELEMENT, x::errorPosition);
            for (String text : new String[] {"code 0", "label 1"}) {
                Expect.type(x, text);
                Expect.outcome(() -> x.insert(0));
                Expect.fails("after " + text, ELEMENT, x::errorPosition);
            }
            Expect.type(x, "?");
            Expect.fails("a wrong position", INDEX, () -> x.insert(2));
            Expect.fails("after a wrong position", ELEMENT, x::errorPosition);
            x.append('?');
            Expect.fails("before the insert", ELEMENT, x::errorPosition);
            Expect.outcome(() -> x.insert(0));
            Expect.due("after the insert", 0, x.errorPosition());
        });
    }

    private static void remove() {
        Sentences.holds("7", "Returns the number of items that remain.", () -> {
            BranchRelaxer x = Expect.times(39, "pool");
            Expect.add(x, "code 3");
            Expect.due("the first of 40", 39, x.remove(0));
            Expect.due("the last of 39", 38, x.remove(38));
            Expect.due("what was last is gone", 7, x.item(37, 0));
            for (int left = 37; left >= 0; left--) {
                Expect.due("remove", left, x.remove(left / 2));
            }
        });
        Sentences.holds("7", "Throws `IndexOutOfBoundsException` if there is no such item", () -> {
            Expect.refuses("remove from nothing", -1, INDEX, new BranchRelaxer()::remove);
            BranchRelaxer x = Expect.times(3, "pool");
            Expect.refuses("remove from 3", 2, INDEX, x::remove);
            Expect.due("remove of the last", 2, x.remove(2));
            Expect.refuses("remove from 2", 1, INDEX, x::remove);
            Expect.refuses("remove from 40", 39, INDEX, Expect.times(40, "pool")::remove);
        });
    }

    private static void move() {
        Sentences.holds("8", "Moves an item, with its form, to another place.", () -> {
            for (int from = 0; from < 4; from++) {
                for (int to = 0; to < 4; to++) {
                    moveFromTo(from, to);
                }
            }
            BranchRelaxer full = Expect.program("jump 1");
            for (int i = 1; i < 40; i++) {
                Expect.add(full, "pool");
            }
            full.setForm(0, 2);
            Expect.due("from the first of 40 to the last", 4, full.move(0, 39));
            Expect.due("its form", 2, full.item(39, 2));
            Expect.due("from the last of 40 to the first", 4, full.move(39, 0));
            Expect.due("its form", 2, full.item(0, 2));
            Expect.due("the items", 40, full.itemCount());
        });
        Sentences.holds("8", "Throws `IndexOutOfBoundsException` if there is no such item, or position is negative or not less than "
            + "the number of items", () -> {
                BranchRelaxer none = new BranchRelaxer();
                Expect.fails("move in nothing", INDEX, () -> none.move(0, 0));
                BranchRelaxer x = Expect.program("code 1", "code 2", "code 3");
                Expect.refuses("move of an item", 2, INDEX, item -> x.move(item, 0));
                Expect.refuses("move to a position", 2, INDEX, position -> x.move(0, position));
                Expect.due("the items", "0 1 0; 0 2 0; 0 3 0; ", Expect.listing(x));
                Expect.due("move to the last position", 0, x.move(0, 2));
                BranchRelaxer full = Expect.times(40, "pool");
                Expect.refuses("move of an item of 40", 39, INDEX, item -> full.move(item, 0));
                Expect.refuses("move to a position of 40", 39, INDEX, position -> full.move(0, position));
            });
    }

    private static void moveFromTo(int from, int to) {
        BranchRelaxer x = Expect.program("jump 1", "branch 2", "jump 3", "branch 4");
        int[] forms = {2, 1, 0, 2};
        List<String> due = new ArrayList<>();
        for (int i = 0; i < 4; i++) {
            x.setForm(i, forms[i]);
            due.add(x.item(i, 0) + " " + x.item(i, 1) + " " + forms[i] + "; ");
        }
        due.add(to, due.remove(from));
        Expect.due("move(" + from + ", " + to + ")", from % 2 == 0 ? 4 : 5, x.move(from, to));
        Expect.due("after move(" + from + ", " + to + ")", String.join("", due), Expect.listing(x));
    }

    private static void item() {
        Sentences.holds("9", "- `what`: 0 for the kind, 1 for the operand, 2 for the form, which is 0 if the item is no transfer, 3 "
            + "for the size, 4 for the address", () -> {
                BranchRelaxer x = Expect.program("code 9", "branch 7", "align 4", "load 88", "pool", "data 50", "label 6");
                x.setForm(1, 2);
                int[][] due = {{0, 9, 0, 9, 0}, {5, 7, 2, 7, 9}, {3, 4, 0, 0, 16}, {6, 88, 0, 2, 16}, {7, 0, 0, 6, 18},
                    {1, 50, 0, 50, 24}, {2, 6, 0, 0, 74}};
                for (int i = 0; i < due.length; i++) {
                    for (int what = 0; what <= 4; what++) {
                        Expect.due("item(" + i + ", " + what + ")", due[i][what], x.item(i, what));
                    }
                }
                x.remove(1);
                Expect.due("the form of an item in the place of a far one", 0, x.item(1, 2));
                noFormsButOfTransfers();
            });
        Sentences.holds("9", "Throws `IndexOutOfBoundsException` if there is no such item", () -> {
            for (int count : new int[] {0, 1, 3, 40}) {
                BranchRelaxer x = Expect.times(count, "pool");
                for (int what = 0; what <= 4; what++) {
                    int asked = what;
                    Expect.refuses("item of " + count, count - 1, INDEX, item -> x.item(item, asked));
                }
            }
        });
        Sentences.holds("9", "Throws `IllegalArgumentException` if what is not 0 to 4", () -> {
            BranchRelaxer x = Expect.program("jump 1", "pool");
            Expect.refuses("item of a jump", 4, ARGUMENT, what -> x.item(0, what));
            Expect.refuses("item of a pool", 4, ARGUMENT, what -> x.item(1, what));
        });
    }

    /** The calls that give forms to transfers, each where a transfer with another form was before. */
    private static void noFormsButOfTransfers() {
        BranchRelaxer x = Expect.program("jump 1", "data 16", "label 1");
        x.optimize();
        Expect.due("forms after optimize", "4 1 1; 1 16 0; 2 1 0; ", Expect.listing(x));
        x.move(0, 2);
        x.move(1, 0);
        Expect.due("optimize of other places", 19, x.optimize());
        Expect.due("forms after it", "2 1 0; 1 16 0; 4 1 1; ", Expect.listing(x));
        x.setForm(2, 2);
        x.shrink();
        Expect.due("forms after shrink", "2 1 0; 1 16 0; 4 1 1; ", Expect.listing(x));
        x.move(2, 1);
        x.relax();
        Expect.due("forms after relax", "2 1 0; 4 1 0; 1 16 0; ", Expect.listing(x));
        x.undo();
        x.undo();
        Expect.due("forms after undo", "2 1 0; 1 16 0; 4 1 1; ", Expect.listing(x));
    }

    private static void nameCharacter() {
        String[] names = {"code", "data", "label", "align", "jump", "branch", "load", "pool"};
        Sentences.holds("10", "- `index`: the index of the character, from 0", () -> {
            for (String name : names) {
                BranchRelaxer x = Expect.program(name.equals("pool") ? name : name + " 1");
                Expect.due("the first of " + name, name.charAt(0), x.nameCharacter(0, 0));
                Expect.due("the last of " + name, name.charAt(name.length() - 1), x.nameCharacter(0, name.length() - 1));
            }
        });
        Sentences.holds("10", "Throws `IndexOutOfBoundsException` if there is no such item", () -> {
            BranchRelaxer x = Expect.program("code 1", "branch 1");
            Expect.refuses("nameCharacter", 1, INDEX, item -> x.nameCharacter(item, 0));
            Expect.refuses("nameCharacter in nothing", -1, INDEX, item -> new BranchRelaxer().nameCharacter(item, 0));
        });
        Sentences.holds("10", "Throws `NoSuchElementException` if there is no such character", () -> {
            for (String name : names) {
                BranchRelaxer x = Expect.program(name.equals("pool") ? name : name + " 1");
                Expect.refuses("nameCharacter of " + name, name.length() - 1, ELEMENT, index -> x.nameCharacter(0, index));
            }
        });
    }

    private static void setForm() {
        Sentences.holds("11", "- `form`: the form, 0 to 2", () -> {
            BranchRelaxer x = Expect.program("jump 1", "branch 1");
            for (int form = 0; form <= 2; form++) {
                x.setForm(0, form);
                x.setForm(1, 2 - form);
                Expect.due("forms", form + "" + (2 - form), Expect.forms(x));
            }
        });
        Sentences.holds("11", "Returns the previous form.", () -> {
            BranchRelaxer x = Expect.program("jump 1");
            int before = 0;
            for (int form : new int[] {0, 1, 2, 2, 0, 2, 1, 1, 0}) {
                Expect.due("setForm to " + form, before, x.setForm(0, form));
                before = form;
            }
        });
        Sentences.holds("11", "Throws `IndexOutOfBoundsException` if there is no such item", () -> {
            BranchRelaxer x = Expect.program("jump 1", "jump 1");
            Expect.refuses("setForm", 1, INDEX, item -> x.setForm(item, 1));
            Expect.refuses("setForm in nothing", -1, INDEX, item -> new BranchRelaxer().setForm(item, 1));
        });
        Sentences.holds("11", "Throws `IllegalArgumentException` if the item is no transfer, or form is out of range", () -> {
            BranchRelaxer x = Expect.program("code 1", "data 1", "label 1", "align 1", "load 1", "pool", "jump 1", "branch 1");
            for (int i = 0; i < 6; i++) {
                int item = i;
                Expect.fails("setForm of kind " + x.item(i, 0), ARGUMENT, () -> x.setForm(item, 0));
            }
            Expect.refuses("setForm of a jump", 2, ARGUMENT, form -> x.setForm(6, form));
            Expect.refuses("setForm of a branch", 2, ARGUMENT, form -> x.setForm(7, form));
            Expect.due("forms", "00", Expect.forms(x));
        });
    }
}
