import java.util.NoSuchElementException;

/** The sentences of the description on displacements, relaxing and shrinking. */
final class FormSentences {
    private FormSentences() {
    }

    static void all() {
        displacements();
        reach();
        relaxing();
        shrinking();
    }

    private static void displacements() {
        Sentences.holds("Displacements", "The displacement of a transfer is the address of the item that defines its label, minus "
            + "the address behind the transfer, which is its own address plus its size.", () -> {
                int[] jump = {2, 3, 5};
                int[] branch = {2, 4, 7};
                BranchRelaxer x = Expect.program("label 1", "jump 1", "branch 2", "label 2", "code 1");
                for (int form = 0; form <= 2; form++) {
                    x.setForm(1, form);
                    x.setForm(2, form);
                    Expect.due("a jump to the address before itself", -jump[form], x.displacement(1));
                    Expect.due("a branch to the address behind itself", 0, x.displacement(2));
                }
                x.move(0, 1);
                x.move(3, 2);
                for (int form = 0; form <= 2; form++) {
                    x.setForm(0, form);
                    x.setForm(3, form);
                    Expect.due("a jump to the address behind itself", 0, x.displacement(0));
                    Expect.due("a branch to the address before itself", -branch[form], x.displacement(3));
                }
                BranchRelaxer far = Expect.program("jump 1");
                for (int i = 0; i < 38; i++) {
                    Expect.add(far, "data 50");
                }
                Expect.add(far, "label 1");
                Expect.due("over all that there is room for", 1900, far.displacement(0));
                far.move(0, 39);
                Expect.due("back over itself alone", -2, far.displacement(39));
                far.move(38, 0);
                Expect.due("back over it all", -1902, far.displacement(39));
            });
        Sentences.holds("Displacements", "It exists only if the label is defined.", () -> {
            BranchRelaxer x = Expect.program("jump 0", "branch 9", "label 0");
            Expect.due("defined", 2, x.displacement(0));
            Expect.fails("not defined", NoSuchElementException.class, () -> x.displacement(1));
            x.remove(2);
            Expect.fails("no longer defined", NoSuchElementException.class, () -> x.displacement(0));
            Expect.add(x, "label 9");
            Expect.due("defined by another", 0, x.displacement(1));
            Expect.fails("another label", NoSuchElementException.class, () -> x.displacement(0));
        });
        Sentences.holds("Displacements", "A transfer fits if its form is 0 and its displacement from -16 to 15, or its form is 1 "
            + "and its displacement from -100 to 99, or its form is 2.", () -> {
                for (String name : new String[] {"jump", "branch"}) {
                    int[] edges = {-200, -101, -100, -99, -17, -16, -15, 0, 14, 15, 16, 98, 99, 100, 200};
                    int[] least = {2, 2, 1, 1, 1, 0, 0, 0, 0, 0, 1, 1, 1, 2, 2};
                    for (int i = 0; i < edges.length; i++) {
                        for (int form = 0; form <= 2; form++) {
                            checkFit(name, form, edges[i], form >= least[i]);
                        }
                    }
                }
            });
    }

    private static void checkFit(String name, int form, int displacement, boolean due) {
        BranchRelaxer x = apart(name, form, displacement);
        int transfer = displacement < 0 ? x.itemCount() - 1 : 0;
        Expect.due("displacement of a " + name, displacement, x.displacement(transfer));
        Expect.due("fits " + name + " with " + form + " by " + displacement, due, x.fits(transfer));
        Expect.due("misfits with " + form + " by " + displacement, due ? 0 : 1, x.misfits());
    }

    /** A program of a transfer with a form and its label, as far from each other as is wanted. */
    static BranchRelaxer apart(String name, int form, int displacement) {
        int[] sizes = name.equals("jump") ? new int[] {2, 3, 5} : new int[] {2, 4, 7};
        BranchRelaxer x = new BranchRelaxer();
        Expect.add(x, displacement < 0 ? "label 1" : name + " 1");
        int bytes = displacement < 0 ? -displacement - sizes[form] : displacement;
        for (int rest = bytes; rest > 0; rest -= 50) {
            Expect.add(x, "data " + Math.min(rest, 50));
        }
        Expect.add(x, displacement < 0 ? name + " 1" : "label 1");
        x.setForm(displacement < 0 ? x.itemCount() - 1 : 0, form);
        return x;
    }

    private static void reach() {
        Sentences.holds("Displacements", "The distance of a load is the address of the literal with its value in its pool, minus "
            + "the address behind the load.", () -> {
                BranchRelaxer x = Expect.program("load 1", "load 2", "load 1", "code 2", "pool", "load 1", "code 2", "load 2");
                // the literals 1 and 2 at 8 and 12, and in the end pool at 24 and 28
                int[] loads = {0, 1, 2, 5, 7};
                int[] due = {6, 8, 2, 24 - 18, 28 - 22};
                for (int i = 0; i < loads.length; i++) {
                    Expect.due("distance of " + loads[i], due[i], x.distance(loads[i]));
                }
                Expect.due("to the address behind", 0, Expect.program("code 2", "load 1").distance(1));
                BranchRelaxer far = Expect.program("load 1");
                for (int i = 0; i < 39; i++) {
                    Expect.add(far, "data 50");
                }
                Expect.due("over all that there is room for", 1952 - 2, far.distance(0));
            });
        Sentences.holds("Displacements", "A load is in reach if its distance is at most 60.", () -> {
            for (int distance = 58; distance <= 63; distance++) {
                // the load lies so that the pool needs no padding
                int before = 8 - (2 + distance) % 4;
                BranchRelaxer x = Expect.program("data " + before, "load 1", "data 50", "data " + (distance - 50), "pool");
                Expect.due("distance", distance, x.distance(1));
                Expect.due("out of reach by " + distance, distance <= 60 ? 0 : 1, x.loadsOutOfReach());
            }
        });
    }

    private static void relaxing() {
        Sentences.holds("Relaxing", "Relaxing makes all forms 0 first.", () -> {
            BranchRelaxer x = Expect.program("jump 1", "branch 1", "label 1", "jump 1");
            x.setForm(0, 2);
            x.setForm(1, 1);
            x.setForm(3, 2);
            Expect.due("rounds", 0, x.relax());
            Expect.due("forms", "000", Expect.forms(x));
            // with the far branch the jump would need near
            BranchRelaxer y = Expect.program("jump 1", "branch 2", "label 2", "data 13", "label 1");
            y.setForm(1, 2);
            Expect.due("the jump before", 20, y.displacement(0));
            Expect.due("rounds", 0, y.relax());
            Expect.due("forms", "00", Expect.forms(y));
        });
        Sentences.holds("Relaxing", "Then it works in rounds.", () -> {
            BranchRelaxer x = chain(16);
            Expect.due("rounds of a chain of ten", 10, x.relax());
            Expect.due("forms", "1111111111", Expect.forms(x));
        });
        Sentences.holds("Relaxing", "In a round, the displacements of all transfers with the present forms are considered; each "
            + "transfer that does not fit gets the least form with which it would fit if its displacement stayed the same, all "
            + "of them at once.", FormSentences::rounds);
        Sentences.holds("Relaxing", "If no form changes in a round, relaxing ends.", () -> {
            Expect.due("rounds of nothing", 0, new BranchRelaxer().relax());
            Expect.due("rounds without transfers", 0, Expect.program("code 1", "label 1").relax());
            BranchRelaxer x = chain(15);
            Expect.due("rounds of a chain that fits", 0, x.relax());
            Expect.due("forms", "0000000000", Expect.forms(x));
            // without the code behind it the first jump has bytes to spare
            BranchRelaxer y = chain(16);
            y.remove(1);
            Expect.due("rounds until one jump has bytes to spare", 9, y.relax());
            Expect.due("forms", "0111111111", Expect.forms(y));
            Expect.due("again, for it starts anew", 9, y.relax());
        });
    }

    private static void rounds() {
        relaxed("both at once", 1, "11", "jump 0", "jump 0", "data 40", "label 0");
        relaxed("both, though one would be enough", 1, "11", "branch 0", "jump 0", "align 4", "data 5", "label 0");
        relaxed("the second sees the first one's growth in the next round", 2, "12",
            "data 20", "label 0", "data 50", "branch 0", "data 46", "jump 0");
        relaxed("short to far at once, near in the same round", 1, "21", "jump 0", "data 48", "jump 0", "data 50", "label 0");
        relaxed("short to far for both", 1, "220", "jump 1", "align 2", "jump 1", "data 48", "data 45", "align 3", "branch 0",
            "label 0", "label 1");
        relaxed("15 is short", 0, "0", "jump 0", "data 15", "label 0");
        relaxed("16 is near", 1, "1", "jump 0", "data 16", "label 0");
        relaxed("99 is near", 1, "1", "jump 0", "data 49", "data 50", "label 0");
        relaxed("100 is far", 1, "2", "jump 0", "data 50", "data 50", "label 0");
        relaxed("-16 is short", 0, "0", "label 0", "data 14", "branch 0");
        relaxed("-17 is near", 1, "1", "label 0", "data 15", "branch 0");
        relaxed("-98 is near and then -100, which fits", 1, "1", "label 0", "data 46", "data 50", "branch 0");
        relaxed("-99 is near and then -101, which is far", 2, "2", "label 0", "data 47", "data 50", "branch 0");
        relaxed("-101 is far", 1, "2", "label 0", "data 49", "data 50", "branch 0");
    }

    private static void relaxed(String what, int rounds, String forms, String... items) {
        BranchRelaxer x = Expect.program(items);
        Expect.due("rounds: " + what, rounds, x.relax());
        Expect.due("forms: " + what, forms, Expect.forms(x));
        Expect.due("misfits: " + what, 0, x.misfits());
    }

    /** Ten jumps of 15 bytes over the next one each, the last one over as many bytes as are given. */
    private static BranchRelaxer chain(int last) {
        BranchRelaxer x = Expect.program("jump 0", "code 8");
        for (int i = 1; i < 10; i++) {
            Expect.add(x, "jump " + i, "code 5", "label " + (i - 1), i < 9 ? "code 3" : "data " + (last - 5));
        }
        Expect.add(x, "label 9");
        return x;
    }

    private static void shrinking() {
        Sentences.holds("Shrinking", "Shrinking works in passes.", () -> {
            BranchRelaxer x = chain(15);
            for (int i = 0; i < x.itemCount(); i++) {
                if (x.item(i, 0) == 4) {
                    x.setForm(i, 1);
                }
            }
            Expect.due("one of a chain of ten in each pass", 10, x.shrink());
            Expect.due("forms", "0000000000", Expect.forms(x));
        });
        Sentences.holds("Shrinking", "In a pass, all transfers with a form greater than 0 are considered in ascending order; the "
            + "form of the transfer is decreased by 1, and if not all transfers fit then, it is increased by 1 again.", () -> {
                shrunk("the first of two that exclude each other", "211", 3, "001", "jump 0", "label 0", "align 4", "jump 0", "jump 0");
                shrunk("by 1 and not to 0 at once", "2", 1, "1", "jump 0", "data 16", "label 0");
                shrunk("near is the least", "1", 0, "1", "jump 0", "data 16", "label 0");
                shrunk("far is the least", "2", 0, "2", "jump 0", "data 50", "data 50", "label 0");
                shrunk("from 99 to near", "2", 1, "1", "jump 0", "data 50", "data 49", "label 0");
                shrunk("from 15 to short", "2", 2, "0", "jump 0", "data 15", "label 0");
                shrunk("back by 16 when short", "2", 2, "0", "label 0", "data 14", "branch 0");
                shrunk("back by 17 when short", "2", 1, "1", "label 0", "data 15", "branch 0");
                shrunk("back by 100 when near", "2", 1, "1", "label 0", "data 50", "data 46", "branch 0");
                shrunk("back by 101 when near", "2", 0, "2", "label 0", "data 50", "data 47", "branch 0");
            });
        Sentences.holds("Shrinking", "Each transfer is considered once in a pass.", () ->
            shrunk("the others come before the first is considered again", "211", 3, "100",
                "branch 0", "label 0", "align 4", "jump 0", "branch 0"));
        Sentences.holds("Shrinking", "Shrinking ends after a pass in which no form was decreased for good.", () -> {
            Expect.due("decreases of nothing", 0, new BranchRelaxer().shrink());
            shrunk("no pass but one", "00", 0, "00", "jump 0", "label 0", "branch 0");
            shrunk("two passes and one more", "2", 2, "0", "jump 0", "label 0", "align 1", "align 4");
            shrunk("all from far to short", "22222", 10, "00000", "jump 0", "branch 0", "label 0", "jump 0", "branch 0", "jump 0");
        });
    }

    private static void shrunk(String what, String before, int kept, String after, String... items) {
        BranchRelaxer x = Expect.program(items);
        int transfer = 0;
        for (int i = 0; i < items.length; i++) {
            if (x.item(i, 0) == 4 || x.item(i, 0) == 5) {
                x.setForm(i, before.charAt(transfer) - '0');
                transfer++;
            }
        }
        Expect.due("decreases: " + what, kept, x.shrink());
        Expect.due("forms: " + what, after, Expect.forms(x));
        Expect.due("misfits: " + what, 0, x.misfits());
    }
}
