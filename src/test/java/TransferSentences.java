import java.util.NoSuchElementException;
import java.util.function.Function;

/** The sentences of the promises 18 to 30: transfers. */
final class TransferSentences {
    private static final Class<IllegalArgumentException> ARGUMENT = IllegalArgumentException.class;
    private static final Class<IllegalStateException> STATE = IllegalStateException.class;
    private static final Class<NoSuchElementException> ELEMENT = NoSuchElementException.class;
    private static final Class<UnsupportedOperationException> UNSUPPORTED = UnsupportedOperationException.class;

    private TransferSentences() {
    }

    static void all() {
        counts();
        questionsAboutOne("21", (x, item) -> x.displacement(item));
        questionsAboutOne("22", (x, item) -> x.fits(item));
        questionsAboutOne("24", (x, item) -> x.neededForm(item));
        fitsAndNeededForm();
        misfits();
        relax();
        shrink();
        leastSize();
        optimize();
        consistentChoices();
        refusedSearch("27", BranchRelaxer::leastSize);
        refusedSearch("28", BranchRelaxer::optimize);
        refusedSearch("29", BranchRelaxer::consistentChoices);
        averageForm();
    }

    private static void counts() {
        Sentences.holds("18", "Returns 0 to 40.", () -> {
            Expect.due("of nothing", 0, new BranchRelaxer().transferCount());
            Expect.due("of items that are none", 0,
                Expect.program("code 1", "data 1", "label 1", "align 1", "load 1", "pool").transferCount());
            BranchRelaxer x = new BranchRelaxer();
            for (int i = 0; i < 40; i++) {
                Expect.add(x, i % 4 == 3 ? "branch 1" : "jump 1");
                Expect.due("of " + (i + 1), i + 1, x.transferCount());
            }
        });
        Sentences.holds("19", "- `form`: the form, 0 to 2", () -> {
            BranchRelaxer x = Expect.program("jump 1", "branch 1", "jump 2", "code 1", "label 1", "jump 3", "branch 4", "branch 5");
            x.setForm(1, 1);
            x.setForm(2, 1);
            x.setForm(5, 2);
            x.setForm(6, 2);
            x.setForm(7, 2);
            Expect.due("short ones, other items not counted", 1, x.formCount(0));
            Expect.due("near ones", 2, x.formCount(1));
            Expect.due("far ones", 3, x.formCount(2));
            for (int form = 0; form <= 2; form++) {
                Expect.due("of nothing", 0, new BranchRelaxer().formCount(form));
            }
            Expect.due("of 40 short ones", 40, Expect.times(40, "jump 1").formCount(0));
        });
        Sentences.holds("19", "Throws `IllegalArgumentException` if form is out of range", () -> {
            Expect.refuses("formCount of nothing", 2, ARGUMENT, new BranchRelaxer()::formCount);
            Expect.refuses("formCount", 2, ARGUMENT, Expect.program("jump 1")::formCount);
        });
        Sentences.holds("20", "Returns the number of transfers whose label is not defined.", () -> {
            Expect.due("of nothing", 0, new BranchRelaxer().undefinedCount());
            Expect.due("of 40", 40, Expect.times(40, "jump 1").undefinedCount());
            BranchRelaxer x = Expect.program("jump 0", "branch 9", "jump 9", "label 0", "load 5");
            Expect.due("of two with one label", 2, x.undefinedCount());
            Expect.add(x, "label 9");
            Expect.due("of none", 0, x.undefinedCount());
            x.remove(3);
            Expect.due("of one", 1, x.undefinedCount());
        });
    }

    private static void questionsAboutOne(String promise, ItemQuestions.Question question) {
        ItemQuestions.refuseNoItem(promise, "jump 1", question);
        ItemQuestions.refuseOtherKinds(promise, "Throws `IllegalArgumentException` if the item is no transfer", 4, 5, question);
        Sentences.holds(promise, "Throws `NoSuchElementException` if its label is not defined", () -> {
            BranchRelaxer x = Expect.program("jump 0", "branch 9", "label 1", "jump 1");
            Expect.fails("label 0", ELEMENT, () -> question.of(x, 0));
            Expect.fails("label 9", ELEMENT, () -> question.of(x, 1));
            x.setForm(0, 2);
            Expect.fails("label 0 from a far jump", ELEMENT, () -> question.of(x, 0));
            Expect.due("label 1 is refused", false, Expect.outcome(() -> question.of(x, 3)).startsWith("throws."));
            x.remove(2);
            Expect.fails("label 1 after its removal", ELEMENT, () -> question.of(x, 2));
        });
    }

    private static void fitsAndNeededForm() {
        Sentences.holds("22", "Returns true if it does.", () -> {
            Expect.due("short by 15", true, FormSentences.apart("jump", 0, 15).fits(0));
            Expect.due("short by 16", false, FormSentences.apart("jump", 0, 16).fits(0));
            Expect.due("near by 99", true, FormSentences.apart("branch", 1, 99).fits(0));
            Expect.due("near by 100", false, FormSentences.apart("branch", 1, 100).fits(0));
            Expect.due("far by 100", true, FormSentences.apart("branch", 2, 100).fits(0));
            Expect.due("short by 0", true, Expect.program("branch 1", "label 1").fits(0));
            Expect.due("far by 0", true, FormSentences.apart("jump", 2, 0).fits(0));
        });
        Sentences.holds("24", "Returns the least form with which a transfer would fit if its displacement stayed the same.", () -> {
            int[] displacements = {-101, -100, -17, -16, 0, 15, 16, 99, 100};
            int[] due = {2, 1, 1, 0, 0, 0, 1, 1, 2};
            for (int i = 0; i < due.length; i++) {
                for (int form = 0; form <= 2; form++) {
                    BranchRelaxer x = FormSentences.apart("branch", form, displacements[i]);
                    int item = displacements[i] < 0 ? x.itemCount() - 1 : 0;
                    Expect.due("neededForm by " + displacements[i] + " with " + form, due[i], x.neededForm(item));
                }
            }
            // a far jump back by 17 is a short one back by 14, but its displacement is to stay
            BranchRelaxer y = Expect.program("label 1", "data 12", "jump 1");
            y.setForm(2, 2);
            Expect.due("the displacement of a far jump stays", 1, y.neededForm(2));
        });
    }

    private static void misfits() {
        Sentences.holds("23", "Returns the number of transfers that do not fit.", () -> {
            Expect.due("of nothing", 0, new BranchRelaxer().misfits());
            Expect.due("without transfers", 0, Expect.program("code 1", "label 1").misfits());
            BranchRelaxer x = Expect.times(38, "jump 1");
            Expect.add(x, "label 1");
            // the k-th from behind has 2 * k bytes before it: 0 to 14 fit
            Expect.due("of 38 before a label", 38 - 8, x.misfits());
            BranchRelaxer y = Expect.program("label 1");
            for (int i = 0; i < 39; i++) {
                Expect.add(y, "jump 1");
            }
            Expect.due("of 39 behind a label", 39 - 8, y.misfits());
        });
        Sentences.holds("23", "Throws `IllegalStateException` if the label of a transfer is not defined", () -> {
            BranchRelaxer x = Expect.program("label 1", "jump 1", "jump 1", "branch 2");
            Expect.fails("the last of three", STATE, x::misfits);
            x.move(3, 0);
            Expect.fails("the first of three", STATE, x::misfits);
            x.setForm(0, 2);
            Expect.fails("a far one", STATE, x::misfits);
            x.remove(0);
            Expect.due("none", 0, x.misfits());
        });
    }

    private static void relax() {
        Sentences.holds("25", "Returns the number of rounds in which a form changed.", () -> {
            Expect.due("of nothing", 0, new BranchRelaxer().relax());
            BranchRelaxer fitting = FormSentences.apart("jump", 2, 15);
            Expect.due("none, though a form became short", 0, fitting.relax());
            Expect.due("one", 1, FormSentences.apart("jump", 0, 16).relax());
            Expect.due("one for a far jump", 1, FormSentences.apart("jump", 0, 100).relax());
            Expect.due("two", 2, Expect.program("jump 1", "jump 2", "data 13", "label 1", "code 3", "label 2").relax());
            BranchRelaxer many = Expect.times(38, "jump 1");
            Expect.add(many, "data 16", "label 1");
            // from 16 to 90 in the first round; then 3 bytes for each, which is more than 99 for the first ten
            Expect.due("two of 38 at once", 2, many.relax());
            Expect.due("near ones", 28, many.formCount(1));
            Expect.due("far ones", 10, many.formCount(2));
        });
        Sentences.holds("25", "Throws `IllegalStateException` if the label of a transfer is not defined", () ->
            refusedWithoutALabel(BranchRelaxer::relax));
    }

    private static void refusedWithoutALabel(Function<BranchRelaxer, Object> call) {
        BranchRelaxer x = Expect.program("label 1", "jump 1", "branch 2");
        x.setForm(1, 2);
        x.setForm(2, 2);
        Expect.fails("the last has no label", STATE, () -> call.apply(x));
        Expect.due("the forms stay", "22", Expect.forms(x));
        x.move(2, 0);
        Expect.fails("the first has no label", STATE, () -> call.apply(x));
        Expect.add(x, "label 2");
        Expect.due("with its label it is refused", false, Expect.outcome(() -> call.apply(x)).startsWith("throws."));
        x.remove(1);
        Expect.fails("another has no label", STATE, () -> call.apply(x));
    }

    private static void shrink() {
        Sentences.holds("26", "Returns the number of decreases that were kept.", () -> {
            Expect.due("of nothing", 0, new BranchRelaxer().shrink());
            Expect.due("none of a short one", 0, FormSentences.apart("jump", 0, 15).shrink());
            Expect.due("none of a near one", 0, FormSentences.apart("jump", 1, 16).shrink());
            Expect.due("one of a near one", 1, FormSentences.apart("jump", 1, 15).shrink());
            Expect.due("one of a far one", 1, FormSentences.apart("jump", 2, 16).shrink());
            Expect.due("two of a far one", 2, FormSentences.apart("jump", 2, 15).shrink());
            BranchRelaxer x = Expect.times(38, "jump 1");
            Expect.type(x, "label 1");
            x.insert(19);
            for (int i = 0; i < 39; i++) {
                if (i != 19) {
                    x.setForm(i, 2);
                }
            }
            // 8 before and 8 behind the label become short, the others near
            Expect.due("of 38 far ones", 38 + 16, x.shrink());
            Expect.due("short ones", 16, x.formCount(0));
            Expect.due("near ones", 22, x.formCount(1));
        });
        Sentences.holds("26",
            "Throws `IllegalStateException` if the label of a transfer is not defined, or not all transfers fit", () -> {
                refusedWithoutALabel(BranchRelaxer::shrink);
                Expect.fails("short by 16", STATE, FormSentences.apart("jump", 0, 16)::shrink);
                Expect.fails("near by 100", STATE, FormSentences.apart("jump", 1, 100)::shrink);
                Expect.fails("short by -17", STATE, FormSentences.apart("branch", 0, -17)::shrink);
                Expect.fails("near by -101", STATE, FormSentences.apart("branch", 1, -101)::shrink);
                BranchRelaxer x = Expect.program("jump 1", "label 1", "data 15", "branch 1");
                x.setForm(0, 2);
                Expect.fails("the last of two does not fit", STATE, x::shrink);
                Expect.due("the forms stay", "20", Expect.forms(x));
            });
    }

    private static void leastSize() {
        Sentences.holds("27", "Returns the least total size with forms such that all transfers fit.", () -> {
            Expect.due("of nothing", 0, new BranchRelaxer().leastSize());
            Expect.due("without transfers", 12, Expect.program("load 1", "code 3").leastSize());
            Expect.due("a short one", 17, FormSentences.apart("jump", 2, 15).leastSize());
            Expect.due("a near one", 19, FormSentences.apart("jump", 0, 16).leastSize());
            Expect.due("a far one", 105, FormSentences.apart("jump", 0, 100).leastSize());
            Expect.due("less than relaxing leads to", 24,
                Expect.program("jump 0", "label 0", "align 4", "load 1", "jump 0").leastSize());
            BranchRelaxer x = Expect.program("label 1", "data 50", "data 50");
            for (int i = 0; i < 8; i++) {
                Expect.add(x, "branch 1");
            }
            Expect.due("eight far ones", 100 + 8 * 7, x.leastSize());
            Expect.due("of 40 items", 25, full().leastSize());
        });
    }

    /** 40 items, the first and the last being branches: the first must be near, and the others can be short. */
    private static BranchRelaxer full() {
        BranchRelaxer x = Expect.program("branch 0", "jump 1", "code 7", "code 7");
        for (int i = 4; i < 35; i++) {
            Expect.add(x, "pool");
        }
        Expect.add(x, "label 0", "label 1", "code 1", "jump 0", "branch 0");
        return x;
    }

    private static void optimize() {
        Sentences.holds("28", "Gives the transfers the forms such that all of them fit and the total size is least; among several "
            + "possibilities, the one that comes first when the forms are compared in ascending order of the transfers, a lower "
            + "form coming first.", () -> {
                optimized(0, "");
                optimized(12, "", "load 1", "code 3");
                optimized(24, "20", "jump 0", "label 0", "align 4", "load 1", "jump 0");
                optimized(24, "11", "branch 0", "jump 0", "align 4", "code 6", "code 2", "label 0");
                optimized(32, "01", "label 0", "branch 0", "label 1", "align 4", "load 1", "jump 1", "data 5");
                optimized(32, "0111", "branch 0", "label 0", "align 4", "code 1", "jump 0", "jump 0", "jump 0", "align 4");
                BranchRelaxer full = full();
                Expect.due("optimize of 40 items", 25, full.optimize());
                Expect.due("forms of 40 items", "1000", Expect.forms(full));
                optimized(16, "00000000", "jump 0", "jump 0", "jump 0", "jump 0", "label 0", "jump 0", "jump 0", "jump 0", "jump 0");
            });
        Sentences.holds("28", "Returns the total size then.", () -> {
            BranchRelaxer x = FormSentences.apart("branch", 2, 99);
            Expect.due("optimize", 103, x.optimize());
            Expect.due("totalSize", 103, x.totalSize());
            BranchRelaxer y = Expect.program("load 1", "jump 1", "code 1", "label 1");
            Expect.due("optimize with an end pool", 12, y.optimize());
            Expect.due("totalSize with an end pool", 12, y.totalSize());
        });
    }

    private static void optimized(int size, String forms, String... items) {
        for (int before = 0; before <= 2; before++) {
            BranchRelaxer x = Expect.program(items);
            for (int i = 0; i < items.length; i++) {
                if (items[i].startsWith("jump") || items[i].startsWith("branch")) {
                    x.setForm(i, before);
                }
            }
            String what = String.join(", ", items) + " from " + before;
            Expect.due("optimize of " + what, size, x.optimize());
            Expect.due("forms of " + what, forms, Expect.forms(x));
            Expect.due("misfits of " + what, 0, x.misfits());
        }
    }

    private static void consistentChoices() {
        Sentences.holds("29", "Returns the number of ways to choose the forms of all transfers such that all of them fit.", () -> {
            Expect.due("of nothing, in one way", 1, new BranchRelaxer().consistentChoices());
            Expect.due("without transfers", 1, Expect.program("code 1").consistentChoices());
            Expect.due("by 15", 3, FormSentences.apart("jump", 0, 15).consistentChoices());
            Expect.due("by 16", 2, FormSentences.apart("jump", 0, 16).consistentChoices());
            Expect.due("by 99", 2, FormSentences.apart("jump", 2, 99).consistentChoices());
            Expect.due("by 100", 1, FormSentences.apart("jump", 2, 100).consistentChoices());
            Expect.due("an align", 37, Expect.program("branch 0", "label 0", "align 4", "code 1", "jump 0", "jump 0", "jump 0",
                "align 4").consistentChoices());
            BranchRelaxer x = new BranchRelaxer();
            for (int i = 0; i < 8; i++) {
                Expect.add(x, "jump " + i, "label " + i);
            }
            Expect.due("the most", 6561, x.consistentChoices());
            Expect.due("of 40 items", 2 * 27, full().consistentChoices());
            Expect.due("eight before a label", 2276, eight("jump 1", 8).consistentChoices());
            Expect.due("eight behind a label", 1367, eight("branch 1", 0).consistentChoices());
        });
    }

    private static BranchRelaxer eight(String transfer, int label) {
        BranchRelaxer x = Expect.times(8, transfer);
        Expect.type(x, "label 1");
        x.insert(label);
        return x;
    }

    private static void refusedSearch(String promise, Function<BranchRelaxer, Object> call) {
        Sentences.holds(promise, "Throws `IllegalStateException` if the label of a transfer is not defined", () -> {
            refusedWithoutALabel(call);
            Expect.fails("nine without a label", STATE, () -> call.apply(Expect.times(9, "jump 1")));
        });
        Sentences.holds(promise, "Throws `UnsupportedOperationException` if there are more than 8 transfers", () -> {
            BranchRelaxer x = eight("jump 1", 4);
            Expect.due("eight are refused", false, Expect.outcome(() -> call.apply(x)).startsWith("throws."));
            Expect.add(x, "branch 1");
            x.setForm(0, 1);
            Expect.fails("nine", UNSUPPORTED, () -> call.apply(x));
            Expect.due("the forms stay", "100000000", Expect.forms(x));
            BranchRelaxer full = Expect.times(39, "jump 1");
            Expect.add(full, "label 1");
            Expect.fails("39", UNSUPPORTED, () -> call.apply(full));
        });
    }

    private static void averageForm() {
        Sentences.holds("30", "Returns the average form: the sum of the forms of all transfers divided by their number, both "
            + "converted to double.", () -> {
                BranchRelaxer x = Expect.program("jump 1", "code 1", "branch 1", "load 1", "jump 1");
                Expect.due("all short", 0.0, x.averageForm());
                x.setForm(0, 1);
                Expect.due("one by three", 1.0 / 3.0, x.averageForm());
                x.setForm(0, 2);
                Expect.due("two by three", 2.0 / 3.0, x.averageForm());
                x.setForm(2, 2);
                x.setForm(4, 2);
                Expect.due("all far", 2.0, x.averageForm());
                BranchRelaxer full = Expect.times(40, "jump 1");
                full.setForm(39, 1);
                Expect.due("one by 40", 1.0 / 40.0, full.averageForm());
            });
        Sentences.holds("30", "Throws `ArithmeticException` if there is no transfer", () -> {
            Expect.fails("nothing", ArithmeticException.class, new BranchRelaxer()::averageForm);
            BranchRelaxer x = Expect.program("code 1", "label 1", "load 1", "pool", "jump 1");
            Expect.due("one", 0.0, x.averageForm());
            x.remove(4);
            Expect.fails("none", ArithmeticException.class, x::averageForm);
        });
    }
}
