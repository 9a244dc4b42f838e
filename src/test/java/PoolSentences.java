/** The sentences of the promises 31 to 38: loads and pools. */
final class PoolSentences {
    private static final Class<IndexOutOfBoundsException> INDEX = IndexOutOfBoundsException.class;

    private PoolSentences() {
    }

    static void all() {
        counts();
        literals("33", (x, pool, index) -> x.literal(pool, index));
        literals("34", (x, pool, index) -> x.literalAddress(pool, index));
        literalsFromZero();
        loads("35", (x, item) -> x.poolOf(item));
        loads("36", (x, item) -> x.distance(item));
        loads("38", (x, item) -> x.slack(item));
        poolOfAndDistance();
        loadsOutOfReach();
        slack();
    }

    private static void counts() {
        Sentences.holds("31", "Returns the number of pool items.", () -> {
            Expect.due("of nothing", 0, new BranchRelaxer().poolCount());
            Expect.due("the end pool is none", 0, Expect.program("load 1", "load 2").poolCount());
            Expect.due("with and without literals", 2, Expect.program("load 1", "pool", "pool").poolCount());
            Expect.due("of 40", 40, Expect.times(40, "pool").poolCount());
        });
        Sentences.holds("32", "Returns the number of literals of a pool.", () -> {
            Expect.due("the end pool of nothing", 0, new BranchRelaxer().literalCount(0));
            Expect.due("equal values count once", 1, Expect.times(40, "load 1").literalCount(0));
            BranchRelaxer x = new BranchRelaxer();
            for (int i = 0; i < 40; i++) {
                Expect.add(x, "load " + (60 + i));
            }
            Expect.due("different values", 40, x.literalCount(0));
            BranchRelaxer y = Expect.program("load 1", "load 2", "pool", "load 1", "pool", "pool", "load 3", "load 3");
            Expect.due("of each pool", "2101",
                "" + y.literalCount(0) + y.literalCount(1) + y.literalCount(2) + y.literalCount(3));
        });
        Sentences.holds("32", "Throws `IndexOutOfBoundsException` if there is no such pool", () -> {
            Expect.refuses("literalCount of nothing", 0, INDEX, new BranchRelaxer()::literalCount);
            Expect.refuses("literalCount with one pool item", 1, INDEX, Expect.program("load 1", "pool")::literalCount);
            Expect.refuses("literalCount with 40 pool items", 40, INDEX, Expect.times(40, "pool")::literalCount);
        });
    }

    private interface LiteralQuestion {
        Object of(BranchRelaxer x, int pool, int index);
    }

    private static void literals(String promise, LiteralQuestion question) {
        Sentences.holds(promise, "Throws `IndexOutOfBoundsException` if there is no such pool or literal", () -> {
            BranchRelaxer none = new BranchRelaxer();
            Expect.fails("the end pool of nothing", INDEX, () -> question.of(none, 0, 0));
            BranchRelaxer x = Expect.program("load 1", "load 2", "load 1", "pool", "pool", "load 3");
            Expect.refuses("pool", 2, INDEX, pool -> question.of(x, pool, 0));
            Expect.refuses("literal of the first pool", 1, INDEX, index -> question.of(x, 0, index));
            Expect.refuses("literal of a pool without", -1, INDEX, index -> question.of(x, 1, index));
            Expect.refuses("literal of the end pool", 0, INDEX, index -> question.of(x, 2, index));
            Expect.due("the last literal is refused", false,
                Expect.outcome(() -> question.of(x, 0, 1)).startsWith("throws."));
            BranchRelaxer full = Expect.times(40, "load 7");
            Expect.refuses("literal of 40 loads", 0, INDEX, index -> question.of(full, 0, index));
        });
    }

    private static void literalsFromZero() {
        BranchRelaxer x = Expect.program("load 1", "load 99", "load 0", "load 99", "code 1", "pool", "load 99", "code 1");
        Sentences.holds("33", "- `index`: the index of the literal, from 0", () -> {
            Expect.due("the first pool", "1 99 0", x.literal(0, 0) + " " + x.literal(0, 1) + " " + x.literal(0, 2));
            Expect.due("the end pool", 99, x.literal(1, 0));
        });
        Sentences.holds("34", "- `index`: the index of the literal, from 0", () -> {
            // the pool item from 9 on, the end pool from 27 on
            Expect.due("the first pool", "12 16 20",
                x.literalAddress(0, 0) + " " + x.literalAddress(0, 1) + " " + x.literalAddress(0, 2));
            Expect.due("the end pool", 28, x.literalAddress(1, 0));
        });
    }

    private static void loads(String promise, ItemQuestions.Question question) {
        ItemQuestions.refuseNoItem(promise, "load 1", question);
        ItemQuestions.refuseOtherKinds(promise, "Throws `IllegalArgumentException` if the item is no load", 6, 6, question);
    }

    private static void poolOfAndDistance() {
        Sentences.holds("35", "Returns the number of the pool to which a load belongs.", () -> {
            BranchRelaxer x = Expect.program("load 1", "pool", "load 1", "load 2", "pool", "pool", "load 1");
            Expect.due("the first pool", 0, x.poolOf(0));
            Expect.due("the second pool", 1, x.poolOf(2));
            Expect.due("directly before the second pool", 1, x.poolOf(3));
            Expect.due("the end pool", 3, x.poolOf(6));
            BranchRelaxer full = Expect.program("load 1");
            for (int i = 1; i < 39; i++) {
                Expect.add(full, "pool");
            }
            Expect.add(full, "load 1");
            Expect.due("the first of 38 pools", 0, full.poolOf(0));
            Expect.due("behind 38 pools", 38, full.poolOf(39));
        });
        Sentences.holds("36", "Returns the distance of a load.", () -> {
            Expect.due("nothing between", 0, Expect.program("code 2", "load 1", "pool").distance(1));
            Expect.due("the most padding", 3, Expect.program("code 3", "load 1", "pool").distance(1));
            Expect.due("a literal before its own", 4, Expect.program("load 5", "load 1", "pool").distance(1));
            BranchRelaxer full = Expect.times(40, "load 7");
            Expect.due("the first of 40", 78, full.distance(0));
            Expect.due("the last of 40", 0, full.distance(39));
        });
    }

    private static void loadsOutOfReach() {
        Sentences.holds("37", "Returns the number of loads that are not in reach.", () -> {
            Expect.due("of nothing", 0, new BranchRelaxer().loadsOutOfReach());
            Expect.due("without loads", 0, Expect.program("data 50", "data 50", "pool").loadsOutOfReach());
            Expect.due("by 60", 0, Expect.program("code 2", "load 1", "data 50", "data 10").loadsOutOfReach());
            Expect.due("by 61", 1, Expect.program("code 1", "load 1", "data 50", "data 11").loadsOutOfReach());
            // the literal at 80, so that those that end up to 18 are out of reach
            Expect.due("of 40", 9, Expect.times(40, "load 7").loadsOutOfReach());
            BranchRelaxer x = Expect.program("load 1", "data 50", "data 50", "load 2", "pool", "load 1", "data 50", "data 50");
            Expect.due("of three in two pools", 2, x.loadsOutOfReach());
        });
    }

    private static void slack() {
        Sentences.holds("38", "Returns the greatest number of bytes, up to 50, that a data item inserted directly before the pool of "
            + "a load could have so that the load would still be in reach, all forms staying as they are.", () -> {
                Expect.due("50 with room for 50", 50, Expect.program("load 1", "code 8", "pool").slack(0));
                Expect.due("49 with room for 49", 49, Expect.program("load 1", "code 9", "pool").slack(0));
                Expect.due("50 with room for more", 50, Expect.program("load 1", "pool").slack(0));
                Expect.due("before the end pool", 48, Expect.program("load 1", "data 10").slack(0));
                Expect.due("one byte", 1, Expect.program("code 2", "load 1", "data 50", "code 9", "pool").slack(1));
                Expect.due("behind an align before the pool", 28, Expect.program("load 1", "data 17", "align 4", "pool").slack(0));
                BranchRelaxer x = Expect.program("load 1", "jump 1", "data 30", "label 1", "pool");
                Expect.due("with a short jump that does not fit", 26, x.slack(0));
                x.setForm(1, 2);
                Expect.due("with a far jump that could be near", 23, x.slack(0));
                for (int code = 1; code <= 9; code++) {
                    slackIsTheGreatest(Expect.program("code " + code, "load 1", "load 2", "data 40", "pool", "load 1"), 1, 4);
                    slackIsTheGreatest(Expect.program("code " + code, "load 1", "load 2", "data 40", "pool", "load 1"), 2, 4);
                    slackIsTheGreatest(Expect.program("load 1", "pool", "load 2", "data 40", "code " + code), 2, 5);
                }
            });
        Sentences.holds("38", "Returns the number of bytes; 0 if not even one byte could be inserted, or the load is not in reach now.",
            () -> {
                Expect.due("by 60, full to the byte", 0, Expect.program("code 2", "load 1", "data 50", "data 10", "pool").slack(1));
                Expect.due("by 58, the next being 62", 0, Expect.program("load 1", "data 50", "code 8").slack(0));
                Expect.due("by 61", 0, Expect.program("code 1", "load 1", "data 50", "data 11", "pool").slack(1));
                Expect.due("by 62", 0, Expect.program("load 1", "data 50", "code 9").slack(0));
                Expect.due("far out of reach", 0, Expect.program("load 1", "data 50", "data 50", "data 50", "pool").slack(0));
                Expect.due("by the literals before its own", 0, Expect.times(40, "load 7").slack(0));
                Expect.due("the last of 40", 50, Expect.times(40, "load 7").slack(39));
            });
    }

    /** Inserts the data item that slack speaks of, and then one with a byte more. */
    private static void slackIsTheGreatest(BranchRelaxer x, int load, int pool) {
        int slack = x.slack(load);
        Expect.due("slack is 1 to 49, so that both can be tried", true, slack >= 1 && slack < 50);
        Expect.type(x, "data " + slack);
        x.insert(pool);
        Expect.due("in reach with " + slack, true, x.distance(load) <= 60);
        x.undo();
        Expect.type(x, "data " + (slack + 1));
        x.insert(pool);
        Expect.due("in reach with one byte more than " + slack, false, x.distance(load) <= 60);
    }
}
