import java.util.ArrayList;
import java.util.List;
import java.util.NoSuchElementException;
import java.util.TreeSet;

/**
 * The document once more, as literally and slowly as possible, with the same face: what the random
 * runs compare the class with.
 */
public final class Model {
    private static final String[] NAMES = {"code", "data", "label", "align", "jump", "branch", "load", "pool"};
    private static final int[] LEAST = {1, 1, 0, 1, 0, 0, 0, 0};
    private static final int[] MOST = {9, 50, 9, 4, 9, 9, 99, 0};
    private static final int[][] SIZES = {null, null, null, null, {2, 3, 5}, {2, 4, 7}, null, null};
    private static final List<String> TEXTS = allTexts();

    private record Item(int kind, int operand, int form) {
        boolean isTransfer() {
            return kind == 4 || kind == 5;
        }

        Item with(int newForm) {
            return new Item(kind, operand, newForm);
        }
    }

    private List<Item> items = new ArrayList<>();
    private List<Item> kept = null;
    private final List<List<Item>> past = new ArrayList<>();
    private String input = "";
    private Integer error = null;

    private static List<String> allTexts() {
        List<String> all = new ArrayList<>();
        all.add("pool");
        for (int kind = 0; kind < 7; kind++) {
            for (int n = 0; n < 10; n++) {
                all.add(NAMES[kind] + " " + n);
            }
            for (int n = 0; n < 100; n++) {
                all.add(NAMES[kind] + " " + n / 10 + n % 10);
            }
        }
        return all;
    }

    private static int errorOf(String text) {
        for (int k = 0; k < text.length(); k++) {
            String start = text.substring(0, k + 1);
            if (TEXTS.stream().noneMatch(t -> t.startsWith(start))) {
                return k;
            }
        }
        return text.length();
    }

    private void change() {
        past.add(new ArrayList<>(items));
        if (past.size() > 10) {
            past.remove(0);
        }
    }

    public int reset() {
        int n = items.size();
        items = new ArrayList<>();
        past.clear();
        return n;
    }

    public int itemCount() {
        return items.size();
    }

    public int append(char character) {
        if (character < 32 || character > 126) {
            throw new IllegalArgumentException();
        }
        if (input.length() == 12) {
            throw new IllegalStateException();
        }
        input += character;
        return input.length();
    }

    public int insert(int position) {
        String text = input;
        input = "";
        if (position < 0 || position > items.size()) {
            throw new IndexOutOfBoundsException();
        }
        if (!TEXTS.contains(text)) {
            error = errorOf(text);
            throw new IllegalArgumentException();
        }
        String[] parts = text.split(" ");
        int kind = List.of(NAMES).indexOf(parts[0]);
        int operand = parts.length == 1 ? 0 : Integer.parseInt(parts[1]);
        if (operand < LEAST[kind] || operand > MOST[kind]) {
            throw new IllegalArgumentException();
        }
        if (items.size() == 40 || kind == 2 && definer(operand) >= 0) {
            throw new IllegalStateException();
        }
        change();
        items.add(position, new Item(kind, operand, 0));
        return kind;
    }

    public int errorPosition() {
        if (error == null) {
            throw new NoSuchElementException();
        }
        return error;
    }

    private void there(int item) {
        if (item < 0 || item >= items.size()) {
            throw new IndexOutOfBoundsException();
        }
    }

    public int remove(int item) {
        there(item);
        change();
        items.remove(item);
        return items.size();
    }

    public int move(int item, int position) {
        there(item);
        there(position);
        change();
        Item moved = items.remove(item);
        items.add(position, moved);
        return moved.kind;
    }

    public int item(int item, int what) {
        there(item);
        Item it = items.get(item);
        return switch (what) {
            case 0 -> it.kind;
            case 1 -> it.operand;
            case 2 -> it.form;
            case 3 -> sizeAt(items, item);
            case 4 -> address(items, item);
            default -> throw new IllegalArgumentException();
        };
    }

    public char nameCharacter(int item, int index) {
        there(item);
        String name = NAMES[items.get(item).kind];
        if (index < 0 || index >= name.length()) {
            throw new NoSuchElementException();
        }
        return name.charAt(index);
    }

    private static void form(int form) {
        if (form < 0 || form > 2) {
            throw new IllegalArgumentException();
        }
    }

    public int setForm(int item, int form) {
        there(item);
        if (!items.get(item).isTransfer()) {
            throw new IllegalArgumentException();
        }
        form(form);
        change();
        return items.set(item, items.get(item).with(form)).form;
    }

    // layout: a pool with index items.size() is the end pool

    private static List<Integer> literalsOfPoolAt(List<Item> list, int place) {
        List<Integer> values = new ArrayList<>();
        for (int i = 0; i < list.size(); i++) {
            if (list.get(i).kind == 6 && placeOfPool(list, i) == place && !values.contains(list.get(i).operand)) {
                values.add(list.get(i).operand);
            }
        }
        return values;
    }

    private static int placeOfPool(List<Item> list, int load) {
        int place = load;
        while (place < list.size() && list.get(place).kind != 7) {
            place++;
        }
        return place;
    }

    private static int poolSize(List<Item> list, int place, int address) {
        int literals = literalsOfPoolAt(list, place).size();
        if (literals == 0) {
            return 0;
        }
        int first = address;
        while (first % 4 != 0) {
            first++;
        }
        return first - address + 4 * literals;
    }

    private static int size(List<Item> list, int item, int address) {
        Item it = list.get(item);
        switch (it.kind) {
            case 0:
            case 1:
                return it.operand;
            case 3:
                int multiple = (int) Math.round(Math.pow(2, it.operand));
                int size = 0;
                while ((address + size) % multiple != 0) {
                    size++;
                }
                return size;
            case 4:
            case 5:
                return SIZES[it.kind][it.form];
            case 6:
                return 2;
            case 7:
                return poolSize(list, item, address);
            default:
                return 0;
        }
    }

    private static int[] addresses(List<Item> list) {
        int[] all = new int[list.size() + 1];
        for (int i = 0; i < list.size(); i++) {
            all[i + 1] = all[i] + size(list, i, all[i]);
        }
        return all;
    }

    private static int address(List<Item> list, int item) {
        return addresses(list)[item];
    }

    private static int sizeAt(List<Item> list, int item) {
        return size(list, item, address(list, item));
    }

    private static int total(List<Item> list) {
        int size = address(list, list.size());
        return size + poolSize(list, list.size(), size);
    }

    public int totalSize() {
        return total(items);
    }

    public int padding() {
        int sum = 0;
        for (int i = 0; i <= items.size(); i++) {
            if (i < items.size() && items.get(i).kind == 3) {
                sum += sizeAt(items, i);
            }
            if (i == items.size() || items.get(i).kind == 7) {
                sum += poolSize(items, i, address(items, i)) - 4 * literalsOfPoolAt(items, i).size();
            }
        }
        return sum;
    }

    private int definer(int label) {
        for (int i = 0; i < items.size(); i++) {
            if (items.get(i).kind == 2 && items.get(i).operand == label) {
                return i;
            }
        }
        return -1;
    }

    public int labelAddress(int label) {
        if (label < 0 || label > 9) {
            throw new IndexOutOfBoundsException();
        }
        if (definer(label) < 0) {
            throw new NoSuchElementException();
        }
        return address(items, definer(label));
    }

    public int itemAt(int address) {
        if (address < 0 || address >= address(items, items.size())) {
            throw new IndexOutOfBoundsException();
        }
        int item = items.size() - 1;
        while (address(items, item) > address) {
            item--;
        }
        return item;
    }

    public int addressIf(int item, int form) {
        there(item);
        form(form);
        List<Item> same = new ArrayList<>();
        for (Item it : items) {
            same.add(it.isTransfer() ? it.with(form) : it);
        }
        return address(same, item);
    }

    public int possibleAddresses(int item) {
        there(item);
        TreeSet<Integer> now = new TreeSet<>(List.of(0));
        for (int i = 0; i < item; i++) {
            TreeSet<Integer> next = new TreeSet<>();
            for (int a : now) {
                for (int form = 0; form < 3; form++) {
                    List<Item> other = new ArrayList<>(items);
                    if (items.get(i).isTransfer()) {
                        other.set(i, items.get(i).with(form));
                    }
                    next.add(a + size(other, i, a));
                }
            }
            now = next;
        }
        return now.size();
    }

    // transfers

    private List<Integer> transfers() {
        List<Integer> all = new ArrayList<>();
        for (int i = 0; i < items.size(); i++) {
            if (items.get(i).isTransfer()) {
                all.add(i);
            }
        }
        return all;
    }

    public int transferCount() {
        return transfers().size();
    }

    public int formCount(int form) {
        form(form);
        return (int) transfers().stream().filter(t -> items.get(t).form == form).count();
    }

    public int undefinedCount() {
        return (int) transfers().stream().filter(t -> definer(items.get(t).operand) < 0).count();
    }

    private int displacementIn(List<Item> list, int[] addresses, int transfer) {
        Item it = list.get(transfer);
        return addresses[definer(it.operand)] - (addresses[transfer] + SIZES[it.kind][it.form]);
    }

    private static boolean fitting(int form, int displacement) {
        return form == 0 && displacement >= -16 && displacement <= 15
            || form == 1 && displacement >= -100 && displacement <= 99
            || form == 2;
    }

    private static int needed(int displacement) {
        int form = 0;
        while (!fitting(form, displacement)) {
            form++;
        }
        return form;
    }

    private int misfitsIn(List<Item> list) {
        int[] addresses = addresses(list);
        int n = 0;
        for (int t : transfers()) {
            if (!fitting(list.get(t).form, displacementIn(list, addresses, t))) {
                n++;
            }
        }
        return n;
    }

    public int displacement(int item) {
        there(item);
        if (!items.get(item).isTransfer()) {
            throw new IllegalArgumentException();
        }
        if (definer(items.get(item).operand) < 0) {
            throw new NoSuchElementException();
        }
        return displacementIn(items, addresses(items), item);
    }

    public boolean fits(int item) {
        int displacement = displacement(item);
        return fitting(items.get(item).form, displacement);
    }

    private void defined() {
        if (undefinedCount() > 0) {
            throw new IllegalStateException();
        }
    }

    public int misfits() {
        defined();
        return misfitsIn(items);
    }

    public int neededForm(int item) {
        return needed(displacement(item));
    }

    public int relax() {
        defined();
        change();
        for (int t : transfers()) {
            items.set(t, items.get(t).with(0));
        }
        int rounds = 0;
        while (true) {
            List<Item> next = new ArrayList<>(items);
            int[] addresses = addresses(items);
            for (int t : transfers()) {
                int displacement = displacementIn(items, addresses, t);
                if (!fitting(items.get(t).form, displacement)) {
                    next.set(t, items.get(t).with(needed(displacement)));
                }
            }
            if (next.equals(items)) {
                return rounds;
            }
            items = next;
            rounds++;
        }
    }

    public int shrink() {
        defined();
        if (misfitsIn(items) > 0) {
            throw new IllegalStateException();
        }
        change();
        int all = 0;
        int inPass;
        do {
            inPass = 0;
            for (int t : transfers()) {
                int form = items.get(t).form;
                if (form > 0) {
                    items.set(t, items.get(t).with(form - 1));
                    if (misfitsIn(items) > 0) {
                        items.set(t, items.get(t).with(form));
                    } else {
                        inPass++;
                    }
                }
            }
            all += inPass;
        } while (inPass > 0);
        return all;
    }

    private List<List<Item>> consistent() {
        defined();
        List<Integer> transfers = transfers();
        if (transfers.size() > 8) {
            throw new UnsupportedOperationException();
        }
        List<List<Item>> found = new ArrayList<>();
        int ways = (int) Math.round(Math.pow(3, transfers.size()));
        for (int way = 0; way < ways; way++) {
            List<Item> list = new ArrayList<>(items);
            int rest = way;
            for (int k = transfers.size() - 1; k >= 0; k--) {
                list.set(transfers.get(k), list.get(transfers.get(k)).with(rest % 3));
                rest /= 3;
            }
            if (misfitsIn(list) == 0) {
                found.add(list);
            }
        }
        return found;
    }

    private static List<Item> best(List<List<Item>> found) {
        List<Item> best = found.get(0);
        for (List<Item> list : found) {
            if (total(list) < total(best)) {
                best = list;
            }
        }
        return best;
    }

    public int leastSize() {
        return total(best(consistent()));
    }

    public int optimize() {
        List<Item> best = best(consistent());
        change();
        items = best;
        return total(items);
    }

    public int consistentChoices() {
        return consistent().size();
    }

    public double averageForm() {
        if (transferCount() == 0) {
            throw new ArithmeticException();
        }
        double sum = 0;
        for (int t : transfers()) {
            sum += items.get(t).form;
        }
        return sum / transferCount();
    }

    // loads and pools

    private List<Integer> pools() {
        List<Integer> places = new ArrayList<>();
        for (int i = 0; i < items.size(); i++) {
            if (items.get(i).kind == 7) {
                places.add(i);
            }
        }
        places.add(items.size());
        return places;
    }

    public int poolCount() {
        return pools().size() - 1;
    }

    private List<Integer> literals(int pool) {
        if (pool < 0 || pool > poolCount()) {
            throw new IndexOutOfBoundsException();
        }
        return literalsOfPoolAt(items, pools().get(pool));
    }

    public int literalCount(int pool) {
        return literals(pool).size();
    }

    public int literal(int pool, int index) {
        List<Integer> values = literals(pool);
        if (index < 0 || index >= values.size()) {
            throw new IndexOutOfBoundsException();
        }
        return values.get(index);
    }

    public int literalAddress(int pool, int index) {
        literal(pool, index);
        int place = pools().get(pool);
        int address = address(items, place);
        return address + poolSize(items, place, address) - 4 * (literalCount(pool) - index);
    }

    public int poolOf(int item) {
        there(item);
        if (items.get(item).kind != 6) {
            throw new IllegalArgumentException();
        }
        return pools().indexOf(placeOfPool(items, item));
    }

    public int distance(int item) {
        int pool = poolOf(item);
        int index = literals(pool).indexOf(items.get(item).operand);
        return literalAddress(pool, index) - (address(items, item) + 2);
    }

    public int loadsOutOfReach() {
        int n = 0;
        for (int i = 0; i < items.size(); i++) {
            if (items.get(i).kind == 6 && distance(i) > 60) {
                n++;
            }
        }
        return n;
    }

    public int slack(int item) {
        int place = pools().get(poolOf(item));
        if (distance(item) > 60) {
            return 0;
        }
        List<Item> before = items;
        int most = 0;
        for (int bytes = 1; bytes <= 50; bytes++) {
            items = new ArrayList<>(before);
            items.add(place, new Item(1, bytes, 0));
            if (distance(item) <= 60) {
                most = bytes;
            }
        }
        items = before;
        return most;
    }

    // history and saving

    public int undo() {
        if (past.isEmpty()) {
            throw new NoSuchElementException();
        }
        items = past.remove(past.size() - 1);
        return past.size();
    }

    public int save() {
        kept = new ArrayList<>(items);
        return items.size();
    }

    public int restore() {
        if (kept == null) {
            throw new IllegalStateException();
        }
        items = new ArrayList<>(kept);
        past.clear();
        return items.size();
    }
}
