import java.util.ArrayList;
import java.util.LinkedHashMap;
import java.util.List;
import java.util.Map;
import java.util.NoSuchElementException;
import java.util.function.Consumer;

/** The sentences of the description on the history and on exceptions. */
final class StateSentences {
    private StateSentences() {
    }

    static void all() {
        history();
        exceptions();
    }

    private static void history() {
        Sentences.holds("History", "A change is a call of insert, remove, move, setForm, relax, shrink or optimize that returns "
            + "without an exception.", () -> {
                whatIsAChange();
                whatIsNoChange();
            });
        Sentences.holds("History", "The object remembers the programs before the last 10 changes.", () -> {
            for (int changes : new int[] {0, 1, 9, 10, 11, 12, 20, 21, 35}) {
                rememberedAfter(changes);
            }
            ringGoesRound();
        });
        Sentences.holds("History", "reset and restore forget them.", () -> {
            BranchRelaxer x = Expect.program("code 1", "code 2");
            Expect.due("save", 2, x.save());
            Expect.due("reset", 2, x.reset());
            Expect.fails("undo after reset", NoSuchElementException.class, x::undo);
            Expect.add(x, "code 3");
            Expect.due("restore", 2, x.restore());
            Expect.fails("undo after restore", NoSuchElementException.class, x::undo);
            Expect.due("nothing was undone", "0 1 0; 0 2 0; ", Expect.listing(x));
            BranchRelaxer y = Expect.program("code 1");
            Expect.fails("a restore that throws", IllegalStateException.class, y::restore);
            Expect.due("it forgets nothing", 0, y.undo());
            BranchRelaxer full = new BranchRelaxer();
            for (int i = 0; i < 13; i++) {
                Expect.add(full, "pool");
            }
            full.reset();
            Expect.fails("undo of ten forgotten changes", NoSuchElementException.class, full::undo);
            Expect.add(full, "pool");
            Expect.due("undo of the change since", 0, full.undo());
            Expect.due("the program before it", 0, full.itemCount());
        });
    }

    private static void whatIsAChange() {
        Map<String, Consumer<BranchRelaxer>> changes = new LinkedHashMap<>();
        changes.put("insert", x -> Expect.add(x, "pool"));
        changes.put("remove", x -> x.remove(0));
        changes.put("move", x -> x.move(0, 1));
        changes.put("move to the same place", x -> x.move(1, 1));
        changes.put("setForm", x -> x.setForm(0, 2));
        changes.put("setForm to the same form", x -> x.setForm(0, 1));
        changes.put("relax", BranchRelaxer::relax);
        changes.put("shrink", BranchRelaxer::shrink);
        changes.put("optimize", BranchRelaxer::optimize);
        for (Map.Entry<String, Consumer<BranchRelaxer>> change : changes.entrySet()) {
            BranchRelaxer x = Expect.program("jump 1", "label 1");
            x.setForm(0, 1);
            change.getValue().accept(x);
            Expect.due("undo of " + change.getKey(), 3, x.undo());
            Expect.due("the program before " + change.getKey(), "4 1 1; 2 1 0; ", Expect.listing(x));
        }
        BranchRelaxer empty = new BranchRelaxer();
        empty.relax();
        empty.shrink();
        empty.optimize();
        Expect.due("undo of changes of nothing", 2, empty.undo());
    }

    private static void whatIsNoChange() {
        BranchRelaxer x = Expect.program("jump 1", "code 1");
        x.save();
        x.append('p');
        x.itemCount();
        x.totalSize();
        x.possibleAddresses(1);
        for (Expect.Call call : refusedCalls(x)) {
            Expect.outcome(call);
        }
        Expect.due("undo of the second of two inserts", 1, x.undo());
        Expect.due("undo of the first of two inserts", 0, x.undo());
        Expect.fails("undo is no change", NoSuchElementException.class, x::undo);
    }

    private static List<Expect.Call> refusedCalls(BranchRelaxer x) {
        List<Expect.Call> calls = new ArrayList<>();
        calls.add(() -> x.insert(9));
        calls.add(() -> x.insert(0));
        calls.add(() -> x.remove(2));
        calls.add(() -> x.move(0, 2));
        calls.add(() -> x.move(-1, 0));
        calls.add(() -> x.setForm(1, 0));
        calls.add(() -> x.setForm(0, 3));
        calls.add(x::relax);
        calls.add(x::shrink);
        calls.add(x::optimize);
        return calls;
    }

    private static void rememberedAfter(int changes) {
        BranchRelaxer x = new BranchRelaxer();
        for (int i = 0; i < changes; i++) {
            Expect.add(x, i % 2 == 0 ? "code " + (1 + i % 9) : "pool");
        }
        int remembered = Math.min(changes, 10);
        for (int left = remembered - 1; left >= 0; left--) {
            Expect.due("undo after " + changes + " changes", left, x.undo());
            Expect.due("items then", changes - remembered + left, x.itemCount());
        }
        Expect.fails("one undo more after " + changes, NoSuchElementException.class, x::undo);
        Expect.due("items at last", changes - remembered, x.itemCount());
    }

    /** Changes and undos in turns, compared with a list of all programs. */
    private static void ringGoesRound() {
        BranchRelaxer x = Expect.program("jump 1");
        List<Integer> before = new ArrayList<>();
        before.add(-1);
        int form = 0;
        int[] turns = {7, -3, 9, -10, 4, -4, 25, -6, 3, -7};
        for (int turn : turns) {
            for (int i = 0; i < turn; i++) {
                before.add(form);
                form = (form + 1 + i % 2) % 3;
                x.setForm(0, form);
                if (before.size() > 10) {
                    before.remove(0);
                }
            }
            for (int i = 0; i < -turn; i++) {
                form = before.remove(before.size() - 1);
                Expect.due("undo in turns", before.size(), x.undo());
                Expect.due("form in turns", form, x.item(0, 2));
            }
        }
        Expect.due("changes at last", 0, before.size());
        Expect.fails("one undo more", NoSuchElementException.class, x::undo);
    }

    private static void exceptions() {
        Sentences.holds("Exceptions",
            "A method that throws an exception leaves the state unchanged, unless its documentation says otherwise.", () -> {
                for (Refusal refusal : refusals()) {
                    Expect.due(refusal.name, "throws." + refusal.exception.getSimpleName(), outcomeOf(refusal));
                    Traces.leavesAlone(refusal.name, refusal.before, x -> Expect.outcome(() -> refusal.call.of(x)));
                }
                insertEmptiesTheInputAlone();
            });
        Sentences.holds("Exceptions", "If several exceptions apply, the one that is documented first is thrown.",
            StateSentences::firstOfSeveral);
        Sentences.holds("Exceptions", "Methods whose documentation does not mention a change only answer a question.", () -> {
            Map<String, CallOn> questions = questions();
            for (Map.Entry<String, CallOn> question : questions.entrySet()) {
                Traces.leavesAlone(question.getKey(), StateSentences::fill, x -> {
                    Object first = question.getValue().of(x);
                    Expect.due(question.getKey() + " asked again", first, question.getValue().of(x));
                });
            }
            Expect.due("questions", 41 - 13, questions.size());
        });
    }

    /** An object with items, forms, input, an error position, changes and something saved. */
    private static void fill(BranchRelaxer x) {
        Expect.add(x, "jump 1", "load 5", "label 1", "branch 1");
        x.setForm(0, 2);
        x.save();
        x.setForm(3, 1);
        Expect.type(x, "codx");
        Expect.outcome(() -> x.insert(0));
        Expect.type(x, "data ");
    }

    private interface CallOn {
        Object of(BranchRelaxer x);
    }

    private static final class Refusal {
        private final String name;
        private final Class<? extends RuntimeException> exception;
        private final Consumer<BranchRelaxer> before;
        private final CallOn call;

        Refusal(String name, Class<? extends RuntimeException> exception, Consumer<BranchRelaxer> before, CallOn call) {
            this.name = name;
            this.exception = exception;
            this.before = before;
            this.call = call;
        }
    }

    private static String outcomeOf(Refusal refusal) {
        BranchRelaxer x = new BranchRelaxer();
        refusal.before.accept(x);
        return Expect.outcome(() -> refusal.call.of(x));
    }

    private static List<Refusal> refusals() {
        Class<IndexOutOfBoundsException> index = IndexOutOfBoundsException.class;
        Class<IllegalArgumentException> argument = IllegalArgumentException.class;
        Class<NoSuchElementException> element = NoSuchElementException.class;
        Class<IllegalStateException> state = IllegalStateException.class;
        Consumer<BranchRelaxer> filled = StateSentences::fill;
        Consumer<BranchRelaxer> undefined = x -> {
            fill(x);
            x.remove(2);
        };
        List<Refusal> all = new ArrayList<>();
        all.add(new Refusal("append of 31", argument, filled, x -> x.append((char) 31)));
        all.add(new Refusal("append to 12", state, x -> {
            fill(x);
            Expect.type(x, "1234567");
        }, x -> x.append('8')));
        all.add(new Refusal("errorPosition", element, x -> Expect.add(x, "code 1"), BranchRelaxer::errorPosition));
        all.add(new Refusal("remove", index, filled, x -> x.remove(4)));
        all.add(new Refusal("move", index, filled, x -> x.move(4, 0)));
        all.add(new Refusal("move to 4", index, filled, x -> x.move(0, 4)));
        all.add(new Refusal("item", index, filled, x -> x.item(4, 0)));
        all.add(new Refusal("item with 5", argument, filled, x -> x.item(0, 5)));
        all.add(new Refusal("nameCharacter", index, filled, x -> x.nameCharacter(4, 0)));
        all.add(new Refusal("nameCharacter of 4", element, filled, x -> x.nameCharacter(0, 4)));
        all.add(new Refusal("setForm", index, filled, x -> x.setForm(4, 0)));
        all.add(new Refusal("setForm of a load", argument, filled, x -> x.setForm(1, 1)));
        all.add(new Refusal("setForm to 3", argument, filled, x -> x.setForm(0, 3)));
        all.add(new Refusal("labelAddress of 10", index, filled, x -> x.labelAddress(10)));
        all.add(new Refusal("labelAddress of 9", element, filled, x -> x.labelAddress(9)));
        all.add(new Refusal("itemAt", index, filled, x -> x.itemAt(11)));
        all.add(new Refusal("addressIf", index, filled, x -> x.addressIf(4, 0)));
        all.add(new Refusal("addressIf with 3", argument, filled, x -> x.addressIf(0, 3)));
        all.add(new Refusal("possibleAddresses", index, filled, x -> x.possibleAddresses(4)));
        all.add(new Refusal("formCount", argument, filled, x -> x.formCount(3)));
        all.add(new Refusal("displacement", index, filled, x -> x.displacement(4)));
        all.add(new Refusal("displacement of a load", argument, filled, x -> x.displacement(1)));
        all.add(new Refusal("displacement to nowhere", element, undefined, x -> x.displacement(0)));
        all.add(new Refusal("fits", index, filled, x -> x.fits(4)));
        all.add(new Refusal("fits of a load", argument, filled, x -> x.fits(1)));
        all.add(new Refusal("fits to nowhere", element, undefined, x -> x.fits(0)));
        all.add(new Refusal("misfits", state, undefined, BranchRelaxer::misfits));
        all.add(new Refusal("neededForm", index, filled, x -> x.neededForm(4)));
        all.add(new Refusal("neededForm of a load", argument, filled, x -> x.neededForm(1)));
        all.add(new Refusal("neededForm to nowhere", element, undefined, x -> x.neededForm(0)));
        all.add(new Refusal("relax", state, undefined, BranchRelaxer::relax));
        all.add(new Refusal("shrink", state, undefined, BranchRelaxer::shrink));
        all.add(new Refusal("shrink of a misfit", state, x -> {
            Expect.add(x, "jump 1", "branch 1", "data 16", "label 1");
            x.setForm(1, 2);
        }, BranchRelaxer::shrink));
        all.add(new Refusal("leastSize", state, undefined, BranchRelaxer::leastSize));
        all.add(new Refusal("optimize", state, undefined, BranchRelaxer::optimize));
        all.add(new Refusal("consistentChoices", state, undefined, BranchRelaxer::consistentChoices));
        addRefusalsOfMany(all);
        addRefusalsOfPools(all, filled);
        all.add(new Refusal("averageForm", ArithmeticException.class, x -> Expect.add(x, "load 1"), BranchRelaxer::averageForm));
        all.add(new Refusal("undo", element, x -> {
            fill(x);
            x.restore();
        }, BranchRelaxer::undo));
        all.add(new Refusal("restore", state, x -> Expect.add(x, "jump 1", "code 2"), BranchRelaxer::restore));
        return all;
    }

    private static void addRefusalsOfMany(List<Refusal> all) {
        Class<UnsupportedOperationException> unsupported = UnsupportedOperationException.class;
        Consumer<BranchRelaxer> nine = x -> {
            Expect.add(x, "label 1");
            for (int i = 0; i < 9; i++) {
                Expect.add(x, "jump 1");
            }
            x.setForm(1, 2);
        };
        all.add(new Refusal("leastSize of nine", unsupported, nine, BranchRelaxer::leastSize));
        all.add(new Refusal("optimize of nine", unsupported, nine, BranchRelaxer::optimize));
        all.add(new Refusal("consistentChoices of nine", unsupported, nine, BranchRelaxer::consistentChoices));
    }

    private static void addRefusalsOfPools(List<Refusal> all, Consumer<BranchRelaxer> filled) {
        Class<IndexOutOfBoundsException> index = IndexOutOfBoundsException.class;
        Class<IllegalArgumentException> argument = IllegalArgumentException.class;
        all.add(new Refusal("literalCount", index, filled, x -> x.literalCount(1)));
        all.add(new Refusal("literal", index, filled, x -> x.literal(1, 0)));
        all.add(new Refusal("literal of 1", index, filled, x -> x.literal(0, 1)));
        all.add(new Refusal("literalAddress", index, filled, x -> x.literalAddress(1, 0)));
        all.add(new Refusal("literalAddress of 1", index, filled, x -> x.literalAddress(0, 1)));
        all.add(new Refusal("poolOf", index, filled, x -> x.poolOf(4)));
        all.add(new Refusal("poolOf a jump", argument, filled, x -> x.poolOf(0)));
        all.add(new Refusal("distance", index, filled, x -> x.distance(4)));
        all.add(new Refusal("distance of a jump", argument, filled, x -> x.distance(0)));
        all.add(new Refusal("slack", index, filled, x -> x.slack(4)));
        all.add(new Refusal("slack of a jump", argument, filled, x -> x.slack(0)));
    }

    /** Of insert the document says otherwise, but for nothing else than the input and the error position. */
    private static void insertEmptiesTheInputAlone() {
        String[] texts = {"data 1", "data x", "data 0", "label 1"};
        int[] positions = {5, 0, 0, 0};
        String[] due = {"IndexOutOfBoundsException", "IllegalArgumentException", "IllegalArgumentException",
            "IllegalStateException"};
        int[] errors = {3, 5, 3, 3};
        for (int i = 0; i < texts.length; i++) {
            int at = i;
            BranchRelaxer x = new BranchRelaxer();
            fill(x);
            Expect.outcome(() -> x.insert(9));
            Expect.type(x, texts[i]);
            Expect.due("insert of " + texts[i], "throws." + due[i], Expect.outcome(() -> x.insert(positions[at])));
            Expect.due("the program after " + texts[i], "4 1 2; 6 5 0; 2 1 0; 5 1 1; ", Expect.listing(x));
            Expect.due("the error position after " + texts[i], errors[i], x.errorPosition());
            Expect.due("the input after " + texts[i], 1, x.append('x'));
            Expect.due("undo after " + texts[i], 5, x.undo());
            Expect.due("what was undone", "4 1 2; 6 5 0; 2 1 0; 5 1 0; ", Expect.listing(x));
            Expect.due("restore after " + texts[i], 4, x.restore());
        }
    }

    private static void firstOfSeveral() {
        BranchRelaxer x = new BranchRelaxer();
        Expect.type(x, "123456789012");
        Expect.fails("append: character before length", IllegalArgumentException.class, () -> x.append((char) 127));
        Expect.fails("insert: position before text", IndexOutOfBoundsException.class, () -> x.insert(1));
        Expect.add(x, "code 1");
        Expect.fails("item: item before what", IndexOutOfBoundsException.class, () -> x.item(1, 5));
        Expect.fails("nameCharacter: item before index", IndexOutOfBoundsException.class, () -> x.nameCharacter(1, 4));
        Expect.fails("setForm: item before form", IndexOutOfBoundsException.class, () -> x.setForm(1, 3));
        Expect.fails("addressIf: item before form", IndexOutOfBoundsException.class, () -> x.addressIf(1, 3));
        Expect.fails("labelAddress: range before definition", IndexOutOfBoundsException.class, () -> x.labelAddress(10));
        Expect.fails("poolOf: item before load", IndexOutOfBoundsException.class, () -> x.poolOf(1));
        Expect.fails("displacement: transfer before label", IllegalArgumentException.class, () -> x.displacement(0));
        BranchRelaxer full = Expect.times(38, "pool");
        Expect.add(full, "label 1", "pool");
        Expect.type(full, "pool");
        Expect.fails("insert: position before room", IndexOutOfBoundsException.class, () -> full.insert(41));
        Expect.type(full, "poo");
        Expect.fails("insert: text before room", IllegalArgumentException.class, () -> full.insert(40));
        Expect.due("insert: the error position of it", 3, full.errorPosition());
        Expect.type(full, "code 0");
        Expect.fails("insert: number before room", IllegalArgumentException.class, () -> full.insert(40));
        Expect.type(full, "label 10");
        Expect.fails("insert: number before label", IllegalArgumentException.class, () -> full.insert(0));
        Expect.type(full, "label 1");
        Expect.fails("insert: position before label", IndexOutOfBoundsException.class, () -> full.insert(-1));
        BranchRelaxer nine = Expect.times(9, "jump 1");
        Expect.fails("leastSize: label before number", IllegalStateException.class, nine::leastSize);
        Expect.fails("optimize: label before number", IllegalStateException.class, nine::optimize);
        Expect.fails("consistentChoices: label before number", IllegalStateException.class, nine::consistentChoices);
    }

    private static Map<String, CallOn> questions() {
        Map<String, CallOn> all = new LinkedHashMap<>();
        all.put("itemCount", BranchRelaxer::itemCount);
        all.put("errorPosition", BranchRelaxer::errorPosition);
        all.put("item", x -> "" + x.item(3, 2) + x.item(3, 3) + x.item(3, 4));
        all.put("nameCharacter", x -> x.nameCharacter(3, 5));
        all.put("totalSize", BranchRelaxer::totalSize);
        all.put("padding", BranchRelaxer::padding);
        all.put("labelAddress", x -> x.labelAddress(1));
        all.put("itemAt", x -> x.itemAt(10));
        all.put("addressIf", x -> "" + x.addressIf(3, 0) + x.addressIf(3, 1) + x.addressIf(3, 2));
        all.put("possibleAddresses", x -> x.possibleAddresses(3));
        all.put("transferCount", BranchRelaxer::transferCount);
        all.put("formCount", x -> x.formCount(1));
        all.put("undefinedCount", BranchRelaxer::undefinedCount);
        all.put("displacement", x -> x.displacement(3));
        all.put("fits", x -> x.fits(3));
        all.put("misfits", BranchRelaxer::misfits);
        all.put("neededForm", x -> x.neededForm(3));
        all.put("leastSize", BranchRelaxer::leastSize);
        all.put("consistentChoices", BranchRelaxer::consistentChoices);
        all.put("averageForm", BranchRelaxer::averageForm);
        all.put("poolCount", BranchRelaxer::poolCount);
        all.put("literalCount", x -> x.literalCount(0));
        all.put("literal", x -> x.literal(0, 0));
        all.put("literalAddress", x -> x.literalAddress(0, 0));
        all.put("poolOf", x -> x.poolOf(1));
        all.put("distance", x -> x.distance(1));
        all.put("loadsOutOfReach", BranchRelaxer::loadsOutOfReach);
        all.put("slack", x -> x.slack(1));
        return all;
    }
}
