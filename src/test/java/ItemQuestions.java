/** What all questions about one item of a certain kind refuse. */
final class ItemQuestions {
    interface Question {
        Object of(BranchRelaxer x, int item);
    }

    private ItemQuestions() {
    }

    /** The label of a transfer is defined in each program, so that nothing but the number can be refused. */
    static void refuseNoItem(String promise, String item, Question question) {
        Sentences.holds(promise, "Throws `IndexOutOfBoundsException` if there is no such item", () -> {
            for (int count : new int[] {0, 1, 3, 40}) {
                BranchRelaxer x = count == 0 ? new BranchRelaxer() : Expect.times(count - 1, item);
                if (count > 0) {
                    Expect.type(x, "label 1");
                    x.insert(0);
                }
                Expect.refuses("an item of " + count, count - 1, IndexOutOfBoundsException.class,
                    number -> question.of(x, number));
                if (count > 1) {
                    Expect.due("the last of " + count + " is refused", false,
                        Expect.outcome(() -> question.of(x, count - 1)).startsWith("throws."));
                }
            }
        });
    }

    /** The items of the kinds from the least to the most are those that the question is for. */
    static void refuseOtherKinds(String promise, String words, int least, int most, Question question) {
        Sentences.holds(promise, words, () -> {
            BranchRelaxer x = Expect.program("code 1", "data 1", "label 1", "align 1", "jump 1", "branch 1", "load 1", "pool");
            for (int kind = 0; kind < 8; kind++) {
                int item = kind;
                boolean refused = Expect.outcome(() -> question.of(x, item)).equals("throws.IllegalArgumentException");
                Expect.due("an item of kind " + kind + " is refused", kind < least || kind > most, refused);
            }
        });
    }
}
