import java.util.NoSuchElementException;

/** The sentences of the description on items, forms and layout. */
final class DescriptionSentences {
    private static final String[] NAMES = {"code", "data", "label", "align", "jump", "branch", "load", "pool"};
    private static final String[] LEAST = {"code 1", "data 1", "label 0", "align 1", "jump 0", "branch 0", "load 0"};
    private static final String[] MOST = {"code 9", "data 50", "label 9", "align 4", "jump 9", "branch 9", "load 99"};

    private DescriptionSentences() {
    }

    static void all() {
        calls();
        items();
        forms();
        sizes();
        pools();
    }

    private static void calls() {
        Sentences.holds("What it is",
            "An object is used for at most 512 calls after it has been made; what later calls answer is free.", () -> {
                BranchRelaxer x = new BranchRelaxer();
                int calls = 0;
                for (int round = 0; round < 56; round++) {
                    Expect.type(x, "jump 1");
                    Expect.due("a late insert", 4, x.insert(0));
                    Expect.due("a late setForm", 0, x.setForm(0, 2));
                    Expect.due("a late remove", 0, x.remove(0));
                    calls += 9;
                }
                for (; calls < 510; calls++) {
                    Expect.due("a late totalSize", 0, x.totalSize());
                }
                Expect.due("call 511", 9, x.undo());
                Expect.due("call 512", 5, x.item(0, 3));
            });
    }

    private static void items() {
        Sentences.holds("Items", "A program is a list of at most 40 items, numbered from 0.", () -> {
            BranchRelaxer x = Expect.program("code 1");
            for (int i = 1; i < 39; i++) {
                Expect.add(x, "pool");
            }
            Expect.add(x, "data 2");
            Expect.due("itemCount", 40, x.itemCount());
            Expect.due("item 0", 0, x.item(0, 0));
            Expect.due("item 1", 7, x.item(1, 0));
            Expect.due("item 38", 7, x.item(38, 0));
            Expect.due("item 39", 1, x.item(39, 0));
            Expect.refuses("item", 39, IndexOutOfBoundsException.class, i -> x.item(i, 0));
            Expect.type(x, "pool");
            Expect.fails("a 41st item", IllegalStateException.class, () -> x.insert(40));
            Expect.type(x, "pool");
            Expect.fails("a 41st item in front", IllegalStateException.class, () -> x.insert(0));
            Expect.due("itemCount still", 40, x.itemCount());
            x.remove(20);
            Expect.type(x, "load 1");
            Expect.due("a 40th item again", 6, x.insert(39));
        });
        Sentences.holds("Items", "An item has one of eight kinds and, except for a pool, an operand: 0, code, with 1 to 9 "
            + "bytes; 1, data, with 1 to 50 bytes; 2, label, with a label from 0 to 9; 3, align, with an exponent from 1 to "
            + "4; 4, jump, and 5, branch, each with a label from 0 to 9; 6, load, with a value from 0 to 99; 7, pool, whose "
            + "operand is 0.", DescriptionSentences::edgesOfOperands);
        Sentences.holds("Items", "Each label is in at most one label item, which defines it.",
            DescriptionSentences::labelsOnce);
        Sentences.holds("Items", "In the following, jump items and branch items are called transfers.", () -> {
            for (int kind = 0; kind < NAMES.length; kind++) {
                BranchRelaxer x = Expect.program(kind == 7 ? "pool" : NAMES[kind] + " 1");
                boolean isTransfer = kind == 4 || kind == 5;
                Expect.due("transferCount with " + NAMES[kind], isTransfer ? 1 : 0, x.transferCount());
                Expect.due("setForm of " + NAMES[kind], isTransfer ? "0" : "throws.IllegalArgumentException",
                    Expect.outcome(() -> x.setForm(0, 1)));
            }
        });
    }

    private static void edgesOfOperands() {
        for (int kind = 0; kind < 7; kind++) {
            for (String text : new String[] {LEAST[kind], MOST[kind]}) {
                BranchRelaxer x = new BranchRelaxer();
                Expect.type(x, text);
                Expect.due("insert of " + text, kind, x.insert(0));
                Expect.due("kind of " + text, kind, x.item(0, 0));
                Expect.due("operand of " + text, Integer.parseInt(text.substring(text.indexOf(' ') + 1)), x.item(0, 1));
            }
        }
        String[] beyond = {"code 0", "code 10", "data 0", "data 51", "label 10", "align 0", "align 5", "jump 10", "branch 10",
            "load 100", "pool 0", "code 00", "code 99", "data 99", "align 99", "label 99", "jump 99", "branch 99"};
        for (String text : beyond) {
            BranchRelaxer x = new BranchRelaxer();
            Expect.type(x, text);
            Expect.fails("insert of " + text, IllegalArgumentException.class, () -> x.insert(0));
            Expect.due("items after " + text, 0, x.itemCount());
        }
        BranchRelaxer x = Expect.program("pool");
        Expect.due("kind of a pool", 7, x.item(0, 0));
        Expect.due("operand of a pool", 0, x.item(0, 1));
        BranchRelaxer reused = Expect.program("load 99");
        reused.remove(0);
        Expect.add(reused, "pool");
        Expect.due("operand of a pool where a load was", 0, reused.item(0, 1));
    }

    private static void labelsOnce() {
        BranchRelaxer x = new BranchRelaxer();
        for (int label = 0; label <= 9; label++) {
            Expect.add(x, "code 1", "label " + label);
        }
        for (int label = 0; label <= 9; label++) {
            Expect.due("address of label " + label, label + 1, x.labelAddress(label));
            Expect.type(x, "label " + label);
            int position = label;
            Expect.fails("label " + label + " again", IllegalStateException.class, () -> x.insert(position));
        }
        x.remove(1);
        Expect.type(x, "label 0");
        Expect.due("label 0 after its removal", 2, x.insert(19));
        Expect.due("its address", 10, x.labelAddress(0));
        x.undo();
        x.undo();
        Expect.type(x, "label 0");
        Expect.fails("label 0 after undo of its removal", IllegalStateException.class, () -> x.insert(0));
        BranchRelaxer y = Expect.program("label 4");
        y.save();
        y.reset();
        Expect.type(y, "label 4");
        Expect.due("label 4 after reset", 2, y.insert(0));
        y.reset();
        y.restore();
        Expect.type(y, "label 4");
        Expect.fails("label 4 after restore", IllegalStateException.class, () -> y.insert(1));
    }

    private static void forms() {
        Sentences.holds("Forms", "A transfer has a form: 0 short, 1 near, 2 far.", () -> {
            for (String text : new String[] {"jump 1", "branch 1"}) {
                BranchRelaxer x = Expect.program(text);
                for (int form = 0; form <= 2; form++) {
                    x.setForm(0, form);
                    Expect.due("form of " + text, form, x.item(0, 2));
                    Expect.due("formCount", 1, x.formCount(form));
                }
                Expect.refuses("setForm", 2, IllegalArgumentException.class, form -> x.setForm(0, form));
                Expect.due("form still", 2, x.item(0, 2));
            }
        });
        Sentences.holds("Forms", "A new transfer is short.", () -> {
            BranchRelaxer x = Expect.program("jump 1", "branch 1");
            Expect.due("new ones", "00", Expect.forms(x));
            x.setForm(0, 2);
            x.setForm(1, 2);
            x.remove(1);
            Expect.add(x, "branch 1");
            Expect.due("where a far one was", "20", Expect.forms(x));
            Expect.type(x, "jump 1");
            x.insert(0);
            Expect.due("before a far one", "020", Expect.forms(x));
            x.setForm(0, 1);
            x.reset();
            Expect.add(x, "jump 1");
            Expect.due("after reset", "0", Expect.forms(x));
        });
    }

    private static void sizes() {
        Sentences.holds("Layout", "The items lie one behind the other, beginning with the address 0.", () -> {
            for (int kind = 0; kind < NAMES.length; kind++) {
                BranchRelaxer first = Expect.program(kind == 7 ? "pool" : NAMES[kind] + " 1");
                Expect.due("address of a first " + NAMES[kind], 0, first.item(0, 4));
            }
            BranchRelaxer x = Expect.program("data 50", "label 1", "jump 1", "align 4", "load 1", "pool", "branch 1", "code 9");
            for (int i = 1; i < 8; i++) {
                Expect.due("address of " + i, x.item(i - 1, 4) + x.item(i - 1, 3), x.item(i, 4));
            }
        });
        Sentences.holds("Layout", "The size of a code or data item is its number of bytes, and that of a label 0.", () -> {
            BranchRelaxer x = Expect.program("code 1", "code 9", "data 1", "data 50", "label 9", "label 0", "code 1");
            int[] due = {1, 9, 1, 50, 0, 0, 1};
            for (int i = 0; i < due.length; i++) {
                Expect.due("size of item " + i, due[i], x.item(i, 3));
            }
            Expect.due("address behind the labels", 61, x.item(6, 4));
        });
        Sentences.holds("Layout", "The size of a jump is 2, 3 or 5, and that of a branch 2, 4 or 7, for the forms 0, 1 and 2.",
            () -> {
                int[] jump = {2, 3, 5};
                int[] branch = {2, 4, 7};
                BranchRelaxer x = Expect.program("jump 1", "branch 1");
                for (int form = 0; form <= 2; form++) {
                    x.setForm(0, form);
                    x.setForm(1, form);
                    Expect.due("size of a jump with " + form, jump[form], x.item(0, 3));
                    Expect.due("size of a branch with " + form, branch[form], x.item(1, 3));
                    Expect.due("totalSize with " + form, jump[form] + branch[form], x.totalSize());
                }
            });
        Sentences.holds("Layout", "The size of a load is 2.", () -> {
            BranchRelaxer x = Expect.program("load 0", "load 99", "pool", "load 99");
            Expect.due("size of a load", 2, x.item(0, 3));
            Expect.due("size of another load", 2, x.item(1, 3));
            Expect.due("size of a load behind a pool", 2, x.item(3, 3));
        });
        Sentences.holds("Layout", "The size of an align item is the least one with which the next item has an address that is "
            + "a multiple of 2 to the power of its exponent.", DescriptionSentences::alignsAtEachAddress);
    }

    private static void alignsAtEachAddress() {
        for (int exponent = 1; exponent <= 4; exponent++) {
            int unit = 1 << exponent;
            for (int address = 0; address <= 2 * unit; address++) {
                BranchRelaxer x = address == 0 ? new BranchRelaxer() : Expect.program("data " + address);
                Expect.add(x, "align " + exponent, "code 1");
                int align = x.itemCount() - 2;
                int due = (unit - address % unit) % unit;
                Expect.due("size of align " + exponent + " at " + address, due, x.item(align, 3));
                Expect.due("the next address", address + due, x.item(align + 1, 4));
            }
        }
        Expect.due("an align at the end", 16, Expect.program("code 1", "align 4").totalSize());
    }

    private static void pools() {
        Sentences.holds("Layout", "The literals of a pool are the different values of the loads that belong to it, in the order "
            + "of the first loads of them.", () -> {
                BranchRelaxer x = Expect.program("load 99", "load 0", "load 99", "load 5", "load 0", "pool", "load 5", "load 99");
                Expect.due("literals of the pool", "99 0 5 ", literals(x, 0));
                Expect.due("literals of the end pool", "5 99 ", literals(x, 1));
                Expect.due("literals of equal loads", "7 ", literals(Expect.times(40, "load 7"), 0));
                BranchRelaxer full = new BranchRelaxer();
                for (int i = 0; i < 40; i++) {
                    Expect.add(full, "load " + (99 - i));
                }
                Expect.due("40 different literals", 40, full.literalCount(0));
                Expect.due("the first of 40", 99, full.literal(0, 0));
                Expect.due("the last of 40", 60, full.literal(0, 39));
            });
        Sentences.holds("Layout", "A load belongs to the first pool item behind it; if there is none, it belongs to the end "
            + "pool, which lies behind all items like a pool item.", () -> {
                BranchRelaxer x = Expect.program("pool", "load 1", "pool", "load 1", "code 3", "pool", "load 1", "code 1");
                Expect.due("directly before a pool", 1, x.poolOf(1));
                Expect.due("with another item between", 2, x.poolOf(3));
                Expect.due("behind all pools", 3, x.poolOf(6));
                // the items end at 23
                Expect.due("the end pool lies behind all items", 24, x.literalAddress(3, 0));
                x.remove(5);
                Expect.due("the end pool without the last pool", 2, x.poolOf(3));
                Expect.due("no pool item at all", 0, Expect.program("load 1").poolOf(0));
                Expect.due("a pool item before it alone", 1, Expect.program("pool", "load 1").poolOf(1));
            });
        Sentences.holds("Layout", "The size of a pool without literals is 0.", () -> {
            for (int address = 0; address <= 4; address++) {
                BranchRelaxer x = address == 0 ? new BranchRelaxer() : Expect.program("code " + address);
                Expect.add(x, "pool", "pool");
                int last = x.itemCount() - 1;
                Expect.due("size of a pool at " + address, 0, x.item(last - 1, 3));
                Expect.due("size of the next pool at " + address, 0, x.item(last, 3));
                Expect.due("totalSize with an empty end pool at " + address, address, x.totalSize());
            }
            BranchRelaxer y = Expect.program("load 1", "pool", "code 1", "pool", "load 2");
            Expect.due("between pools with literals", 0, y.item(3, 3));
        });
        Sentences.holds("Layout", "Any other pool begins with as few bytes of padding as are needed so that its first literal has "
            + "an address that is a multiple of 4; then its literals follow, with 4 bytes each.", () -> {
                for (int address = 2; address <= 9; address++) {
                    BranchRelaxer x = address == 2 ? new BranchRelaxer() : Expect.program("code " + (address - 2));
                    Expect.add(x, "load 1");
                    checkPoolAt(x, address, 1);
                    x.undo();
                }
                BranchRelaxer y = Expect.program("code 1", "load 1", "load 2", "load 3");
                checkPoolAt(y, 7, 3);
            });
        Sentences.holds("Layout", "The total size is the size of all items and of the end pool.", () -> {
            Expect.due("of nothing", 0, new BranchRelaxer().totalSize());
            Expect.due("items without an end pool", 3, Expect.program("code 3", "pool").totalSize());
            Expect.due("items with an end pool and no padding", 8, Expect.program("load 1", "code 2").totalSize());
            Expect.due("items with an end pool and padding", 12, Expect.program("load 1", "code 3").totalSize());
            Expect.due("a pool item and an end pool", 16, Expect.program("load 1", "pool", "load 1").totalSize());
            Expect.due("the most data", 2000, Expect.times(40, "data 50").totalSize());
        });
        Sentences.holds("Layout",
            "Pools are numbered: pool items from 0 in their order, and the end pool has the number of pool items.", () -> {
                BranchRelaxer x = Expect.program("load 5", "pool", "load 6", "pool", "load 7");
                Expect.due("literals by number", "5 6 7", x.literal(0, 0) + " " + x.literal(1, 0) + " " + x.literal(2, 0));
                BranchRelaxer none = Expect.program("load 8");
                Expect.due("the end pool without pool items", 8, none.literal(0, 0));
                Expect.refuses("literalCount", 0, IndexOutOfBoundsException.class, none::literalCount);
                BranchRelaxer full = Expect.times(39, "pool");
                Expect.add(full, "load 9");
                Expect.due("the end pool behind 39 pool items", 39, full.poolOf(39));
                Expect.due("its literal", 9, full.literal(39, 0));
                full.undo();
                Expect.add(full, "pool");
                Expect.due("the end pool behind 40 pool items", 0, full.literalCount(40));
                Expect.refuses("literalCount", 40, IndexOutOfBoundsException.class, full::literalCount);
            });
    }

    private static String literals(BranchRelaxer x, int pool) {
        StringBuilder all = new StringBuilder();
        for (int i = 0; i < x.literalCount(pool); i++) {
            all.append(x.literal(pool, i)).append(' ');
        }
        Expect.fails("a literal behind the last", IndexOutOfBoundsException.class,
            () -> x.literal(pool, x.literalCount(pool)));
        return all.toString();
    }

    /** The end pool first, then a pool item in its place: both are like each other. */
    private static void checkPoolAt(BranchRelaxer x, int address, int literals) {
        int gap = (4 - address % 4) % 4;
        Expect.due("padding of the end pool at " + address, gap, x.padding());
        for (int i = 0; i < literals; i++) {
            Expect.due("literal " + i + " of it", address + gap + 4 * i, x.literalAddress(0, i));
        }
        Expect.due("totalSize", address + gap + 4 * literals, x.totalSize());
        Expect.add(x, "pool");
        Expect.due("size of a pool item at " + address, gap + 4 * literals, x.item(x.itemCount() - 1, 3));
        Expect.due("padding of it", gap, x.padding());
        for (int i = 0; i < literals; i++) {
            Expect.due("literal " + i + " of it", address + gap + 4 * i, x.literalAddress(0, i));
        }
        Expect.due("totalSize then", address + gap + 4 * literals, x.totalSize());
    }
}
