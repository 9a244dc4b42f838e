import java.util.Objects;
import java.util.function.IntFunction;

/** What the tests share: comparing answers with what is due, and typing programs. */
final class Expect {
    interface Call {
        Object answer();
    }

    private static int checked = 0;
    private static int wrong = 0;

    private Expect() {
    }

    static void due(String what, Object want, Object got) {
        checked++;
        if (!Objects.equals(want, got)) {
            wrong++;
            System.out.println(what + " answered " + got + ", due is " + want);
        }
    }

    /** The answer of a call as a text: its value, or the class of the exception behind "throws.". */
    static String outcome(Call call) {
        try {
            return String.valueOf(call.answer());
        } catch (RuntimeException e) {
            return "throws." + e.getClass().getSimpleName();
        }
    }

    static void fails(String what, Class<? extends RuntimeException> want, Call call) {
        due(what, "throws." + want.getSimpleName(), outcome(call));
    }

    /** A call with a number refuses what is just outside 0 to most, and what is as far outside as can be. */
    static void refuses(String what, int most, Class<? extends RuntimeException> want, IntFunction<Object> call) {
        for (int number : new int[] {-1, most + 1, Integer.MIN_VALUE, Integer.MAX_VALUE}) {
            fails(what + " with " + number, want, () -> call.apply(number));
        }
    }

    static int checked() {
        return checked;
    }

    static int wrong() {
        return wrong;
    }

    static void type(BranchRelaxer x, String text) {
        for (char c : text.toCharArray()) {
            x.append(c);
        }
    }

    /** A new object with the given items in their order. */
    static BranchRelaxer program(String... items) {
        BranchRelaxer x = new BranchRelaxer();
        add(x, items);
        return x;
    }

    static void add(BranchRelaxer x, String... items) {
        for (String item : items) {
            type(x, item);
            x.insert(x.itemCount());
        }
    }

    /** A new object with as many equal items. */
    static BranchRelaxer times(int number, String item) {
        BranchRelaxer x = new BranchRelaxer();
        for (int i = 0; i < number; i++) {
            add(x, item);
        }
        return x;
    }

    static String forms(BranchRelaxer x) {
        StringBuilder all = new StringBuilder();
        int count = x.itemCount();
        for (int i = 0; i < count; i++) {
            if (x.item(i, 0) == 4 || x.item(i, 0) == 5) {
                all.append(x.item(i, 2));
            }
        }
        return all.toString();
    }

    /** The whole program as a text, with the forms of all items. */
    static String listing(BranchRelaxer x) {
        StringBuilder all = new StringBuilder();
        int count = x.itemCount();
        for (int i = 0; i < count; i++) {
            all.append(x.item(i, 0)).append(' ').append(x.item(i, 1)).append(' ').append(x.item(i, 2)).append("; ");
        }
        return all.toString();
    }

    static void end() {
        System.out.println(checked + " answers looked at, " + wrong + " not as due");
        if (wrong != 0 || checked == 0) {
            System.exit(1);
        }
    }
}
