/** Promises 31 to 38: loads, pools and literals. */
public final class PoolsTest {
    public static void main(String[] args) {
        poolCount();
        literals();
        literalAddress();
        exceptionsOfPools();
        poolOf();
        distance();
        reach();
        slack();
        slackAtItsEdges();
        exceptionsOfLoads();
        Expect.end();
    }

    private static void poolCount() {
        Expect.due("31: nothing", 0, new BranchRelaxer().poolCount());
        Expect.due("31: the end pool does not count", 0, Expect.program("load 1").poolCount());
        BranchRelaxer x = Expect.program("pool", "load 1", "pool", "pool");
        Expect.due("31: three", 3, x.poolCount());
        x.remove(0);
        Expect.due("31: two", 2, x.poolCount());
        for (int i = 3; i < 40; i++) {
            Expect.add(x, "pool");
        }
        Expect.due("31: of 40 items", 39, x.poolCount());
        Expect.due("32: the pool of the load", 1, x.literalCount(0));
        Expect.due("32: the end pool behind 39 pools", 0, x.literalCount(39));
    }

    private static void literals() {
        BranchRelaxer x = Expect.program("load 5", "load 0", "load 5", "load 99", "pool", "pool", "load 99", "load 05");
        Expect.due("32: three different", 3, x.literalCount(0));
        Expect.due("32: none", 0, x.literalCount(1));
        Expect.due("32: two in the end pool", 2, x.literalCount(2));
        int[] first = {5, 0, 99};
        int[] end = {99, 5};
        for (int i = 0; i < first.length; i++) {
            Expect.due("33: literal(0, " + i + ")", first[i], x.literal(0, i));
        }
        for (int i = 0; i < end.length; i++) {
            Expect.due("33: literal(2, " + i + ")", end[i], x.literal(2, i));
        }
        x.move(0, 3);
        Expect.due("33: the order of the first loads", "0 5 99",
            x.literal(0, 0) + " " + x.literal(0, 1) + " " + x.literal(0, 2));
    }

    private static void literalAddress() {
        BranchRelaxer x = Expect.program("load 5", "load 6", "code 1", "pool", "load 5", "code 2");
        Expect.due("34: behind padding", 8, x.literalAddress(0, 0));
        Expect.due("34: four bytes further", 12, x.literalAddress(0, 1));
        Expect.due("34: in the end pool", 20, x.literalAddress(1, 0));
        x.remove(2);
        Expect.due("34: without padding", 4, x.literalAddress(0, 0));
        Expect.due("34: the end pool then", 16, x.literalAddress(1, 0));
        BranchRelaxer y = Expect.program("load 5", "jump 1", "pool");
        Expect.due("34: behind a short jump", 4, y.literalAddress(0, 0));
        y.setForm(1, 1);
        Expect.due("34: behind a near jump", 8, y.literalAddress(0, 0));
    }

    private static void exceptionsOfPools() {
        BranchRelaxer x = Expect.program("load 5", "pool");
        int[][] wrong = {{-1, 0}, {2, 0}, {0, 1}, {0, -1}, {1, 0}};
        for (int[] pair : wrong) {
            Expect.fails("33: literal", IndexOutOfBoundsException.class, () -> x.literal(pair[0], pair[1]));
            Expect.fails("34: literalAddress", IndexOutOfBoundsException.class, () -> x.literalAddress(pair[0], pair[1]));
        }
        Expect.fails("32: literalCount(-1)", IndexOutOfBoundsException.class, () -> x.literalCount(-1));
        Expect.fails("32: literalCount(2)", IndexOutOfBoundsException.class, () -> x.literalCount(2));
        Expect.due("32: literalCount(1)", 0, x.literalCount(1));
    }

    private static void poolOf() {
        BranchRelaxer x = Expect.program("pool", "load 1", "load 1", "pool", "load 2", "pool", "load 1");
        Expect.due("35: the first pool behind it", 1, x.poolOf(1));
        Expect.due("35: the same", 1, x.poolOf(2));
        Expect.due("35: the next", 2, x.poolOf(4));
        Expect.due("35: the end pool", 3, x.poolOf(6));
    }

    private static void distance() {
        BranchRelaxer x = Expect.program("load 7", "load 8", "load 7", "code 1", "pool", "load 8");
        Expect.due("36: to the first literal", 6, x.distance(0));
        Expect.due("36: to the second literal", 8, x.distance(1));
        Expect.due("36: from another load", 2, x.distance(2));
        Expect.due("36: to the end pool", 2, x.distance(5));
        Expect.due("36: the pool directly behind", 0, Expect.program("code 2", "load 1", "pool").distance(1));
    }

    private static void reach() {
        Expect.due("37: nothing", 0, new BranchRelaxer().loadsOutOfReach());
        // The load ends at 2, so that the literal at 60 or 64 is 58 or 62 away.
        Expect.due("37: by 58", 0, Expect.program("load 1", "data 50", "code 8").loadsOutOfReach());
        Expect.due("37: by 62", 1, Expect.program("load 1", "data 50", "code 9").loadsOutOfReach());
        BranchRelaxer x = Expect.program("code 2", "load 1", "data 50", "code 7", "pool");
        Expect.due("37: by 60 exactly", "60 0", x.distance(1) + " " + x.loadsOutOfReach());
        BranchRelaxer y = Expect.program("code 1", "load 1", "data 50", "code 9");
        Expect.due("37: by 61", "61 1", y.distance(1) + " " + y.loadsOutOfReach());
        BranchRelaxer z = Expect.program("load 1", "load 2", "load 1", "data 50", "code 9");
        // The literals are at 68 and 72: 66, 68 and 62 away.
        Expect.due("37: three", 3, z.loadsOutOfReach());
        z.remove(4);
        // at 56 and 60
        Expect.due("37: none", 0, z.loadsOutOfReach());
    }

    private static void slack() {
        Expect.due("38: at most 50", 50, Expect.program("load 1", "pool").slack(0));
        // The literal may lie at 60, so the pool at most there.
        BranchRelaxer x = Expect.program("load 1", "code 9", "pool");
        Expect.due("38: from 11 to 60", 49, x.slack(0));
        BranchRelaxer y = Expect.program("load 1", "code 9", "load 2", "code 9", "load 2", "pool");
        // From 24: the first literal up to 60, the second one up to 72 and 80, less the first's 4 bytes.
        Expect.due("38: the first literal", 36, y.slack(0));
        Expect.due("38: the second literal", 44, y.slack(2));
        Expect.due("38: the second literal from a later load", 50, y.slack(4));
        Expect.due("38: the program stays", 6, y.itemCount());
        BranchRelaxer z = Expect.program("load 1", "data 40", "jump 1");
        Expect.due("38: before the end pool", 16, z.slack(0));
        z.setForm(2, 2);
        Expect.due("38: with a longer jump", 13, z.slack(0));
    }

    private static void slackAtItsEdges() {
        // 58 away: the next place for the literal is four bytes further.
        Expect.due("38: nothing more", 0, Expect.program("load 1", "data 50", "code 8").slack(0));
        Expect.due("38: in the padding", 1, Expect.program("load 1", "data 50", "code 7").slack(0));
        Expect.due("38: not in reach", 0, Expect.program("load 1", "data 50", "code 9").slack(0));
        Expect.due("38: far out of reach", 0, Expect.program("load 1", "data 50", "data 50").slack(0));
        BranchRelaxer x = Expect.program("load 1", "align 4", "pool");
        // The align stays before what is inserted: 16 + 44 = 60.
        Expect.due("38: behind an align", 44, x.slack(0));
    }

    private static void exceptionsOfLoads() {
        BranchRelaxer x = Expect.program("load 1", "pool", "jump 1");
        for (int item : new int[] {-1, 3, Integer.MAX_VALUE, Integer.MIN_VALUE}) {
            Expect.fails("35: poolOf", IndexOutOfBoundsException.class, () -> x.poolOf(item));
            Expect.fails("36: distance", IndexOutOfBoundsException.class, () -> x.distance(item));
            Expect.fails("38: slack", IndexOutOfBoundsException.class, () -> x.slack(item));
        }
        for (int item : new int[] {1, 2}) {
            Expect.fails("35: poolOf", IllegalArgumentException.class, () -> x.poolOf(item));
            Expect.fails("36: distance", IllegalArgumentException.class, () -> x.distance(item));
            Expect.fails("38: slack", IllegalArgumentException.class, () -> x.slack(item));
        }
    }
}
