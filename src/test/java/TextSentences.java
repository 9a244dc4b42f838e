import java.util.NoSuchElementException;

/** The sentences of the description on texts. */
final class TextSentences {
    private static final String[] NAMES = {"code", "data", "label", "align", "jump", "branch", "load"};

    private TextSentences() {
    }

    static void all() {
        Sentences.holds("Text", "The input is a buffer of at most 12 characters.", TextSentences::twelveCharacters);
        Sentences.holds("Text", "An item is written as the name of its kind in lower-case letters, as above, and, except for a "
            + "pool, a space and a number with one or two digits.", TextSentences::writing);
        Sentences.holds("Text", "The error position of a text that is not written like this is the smallest index k such that no "
            + "text of this kind starts with the first k + 1 characters of it; if there is no such index, it is the length of "
            + "the text.", () -> {
                smallestIndex();
                lengthOfTheText();
                textsBehindOneAnother();
            });
        Sentences.holds("Text", "Whether the number is possible as an operand does not matter for that.",
            TextSentences::impossibleNumbers);
    }

    private static void twelveCharacters() {
        BranchRelaxer x = new BranchRelaxer();
        for (int length = 1; length <= 12; length++) {
            Expect.due("append", length, x.append("branch 99   ".charAt(length - 1)));
        }
        Expect.fails("a 13th character", IllegalStateException.class, () -> x.append(' '));
        Expect.fails("a 13th character, again", IllegalStateException.class, () -> x.append('1'));
        Expect.fails("insert of 12 characters", IllegalArgumentException.class, () -> x.insert(0));
        Expect.due("its error position", 9, x.errorPosition());
        for (int length = 1; length <= 12; length++) {
            Expect.due("append after it", length, x.append('c'));
        }
        Expect.fails("a 13th character after it", IllegalStateException.class, () -> x.append('c'));
    }

    private static void writing() {
        for (int kind = 0; kind < NAMES.length; kind++) {
            String name = NAMES[kind];
            for (String number : new String[] {"1", "01"}) {
                BranchRelaxer x = new BranchRelaxer();
                Expect.type(x, name + " " + number);
                Expect.due("insert of " + name + " " + number, kind, x.insert(0));
                Expect.due("operand of " + name + " " + number, 1, x.item(0, 1));
            }
            String upper = name.toUpperCase();
            String first = upper.substring(0, 1) + name.substring(1);
            String last = name.substring(0, name.length() - 1) + upper.substring(name.length() - 1);
            String[] wrong = {name, name + " ", name + "1", name + "  1", name + " 001", name + " 1 ", name + " 1 1", " " + name + " 1",
                name + " +1", name + " -1", name + " x", name + " 1x", name + "s 1", upper + " 1", first + " 1", last + " 1",
                name.substring(1) + " 1", name.substring(0, name.length() - 1) + " 1", name + "-1"};
            for (String text : wrong) {
                refused(text);
            }
        }
        BranchRelaxer x = new BranchRelaxer();
        Expect.type(x, "pool");
        Expect.due("insert of pool", 7, x.insert(0));
        for (String text : new String[] {"pool ", "pool 1", "pool 0", "pool1", " pool", "Pool", "POOL", "pools", "poo", "poolpool", "1",
            "", " ", "12"}) {
            refused(text);
        }
    }

    private static void refused(String text) {
        BranchRelaxer x = new BranchRelaxer();
        Expect.type(x, text);
        Expect.fails("insert of '" + text + "'", IllegalArgumentException.class, () -> x.insert(0));
        Expect.due("an error position for '" + text + "'", false,
            Expect.outcome(x::errorPosition).startsWith("throws."));
        Expect.due("items after '" + text + "'", 0, x.itemCount());
    }

    private static void errorAt(String text, int due) {
        BranchRelaxer x = new BranchRelaxer();
        Expect.type(x, text);
        Expect.fails("insert of '" + text + "'", IllegalArgumentException.class, () -> x.insert(0));
        Expect.due("error position of '" + text + "'", due, x.errorPosition());
    }

    private static void smallestIndex() {
        for (char c = 32; c < 127; c++) {
            if ("cdlajbp".indexOf(c) < 0) {
                errorAt(c + "ode 1", 0);
            }
            if (c != 'a' && c != 'o') {
                errorAt("l" + c, 1);
            }
            if (c != ' ') {
                errorAt("branch" + c + "1", 6);
            }
            if (c < '0' || c > '9') {
                errorAt("data " + c, 5);
                errorAt("load 1" + c, 6);
            }
            errorAt("jump 11" + c, 7);
            errorAt("pool" + c, 4);
        }
        for (String name : NAMES) {
            for (int k = 0; k < name.length(); k++) {
                errorAt(name.substring(0, k) + "?" + name.substring(k + 1) + " 1", k);
            }
        }
        errorAt("branch 12345", 9);
        errorAt("branch 1 345", 8);
        errorAt("jumpjumpjump", 4);
        errorAt("coda 1", 3);
        errorAt("labe1 1", 4);
        errorAt("load  ", 5);
        errorAt("            ", 0);
    }

    /** Characters of earlier texts are no part of a later one. */
    private static void textsBehindOneAnother() {
        BranchRelaxer x = new BranchRelaxer();
        String[] texts = {"branch 12345", "branch 1 ", "branch ", "branch", "bran", "", "code 12x", "code 1x", "code ", "code", "c",
            "pool 1", "poo", "load 1 ", "load"};
        int[] due = {9, 8, 7, 6, 4, 0, 7, 6, 5, 4, 1, 4, 3, 6, 4};
        for (int i = 0; i < texts.length; i++) {
            Expect.type(x, texts[i]);
            Expect.fails("insert of '" + texts[i] + "'", IllegalArgumentException.class, () -> x.insert(0));
            Expect.due("error position of '" + texts[i] + "' behind another", due[i], x.errorPosition());
        }
    }

    private static void lengthOfTheText() {
        errorAt("", 0);
        for (String name : NAMES) {
            String start = name + " ";
            for (int length = 1; length <= start.length(); length++) {
                errorAt(start.substring(0, length), length);
            }
        }
        errorAt("p", 1);
        errorAt("po", 2);
        errorAt("poo", 3);
    }

    private static void impossibleNumbers() {
        String[] impossible = {"code 0", "code 00", "code 10", "code 99", "data 0", "data 51", "data 99", "label 10", "label 99",
            "align 0", "align 5", "align 99", "jump 10", "jump 99", "branch 10", "branch 99"};
        for (String text : impossible) {
            BranchRelaxer x = new BranchRelaxer();
            Expect.type(x, text);
            Expect.fails("insert of " + text, IllegalArgumentException.class, () -> x.insert(0));
            Expect.fails("no error position of " + text, NoSuchElementException.class, x::errorPosition);
            if (text.length() < 12) {
                errorAt(text + "x", text.length());
            }
        }
        errorAt("code 000", 7);
        errorAt("label 999", 8);
        errorAt("align 5 ", 7);
        BranchRelaxer y = new BranchRelaxer();
        Expect.type(y, "dat");
        Expect.fails("insert of dat", IllegalArgumentException.class, () -> y.insert(0));
        Expect.type(y, "data 51");
        Expect.fails("insert of data 51", IllegalArgumentException.class, () -> y.insert(0));
        Expect.due("the earlier error position stays", 3, y.errorPosition());
    }
}
