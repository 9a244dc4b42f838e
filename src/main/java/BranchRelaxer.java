import java.util.Arrays;
import java.util.NoSuchElementException;

/**
 * A branch relaxer: programs of items with jumps, branches, labels, alignment, loads and literal
 * pools, layout of addresses, growing of forms to a fixed point, shrinking, an exhaustive search for
 * the best forms, bounds of addresses, and reach of literals.
 *
 * <p>What each public method promises stands in the document, DOC.md; it is not told again here.
 */
public final class BranchRelaxer {
    private static final int NONE = -1;

    private static final int CODE = 0;
    private static final int DATA = 1;
    private static final int LABEL = 2;
    private static final int ALIGN = 3;
    private static final int JUMP = 4;
    private static final int BRANCH = 5;
    private static final int LOAD = 6;
    private static final int POOL = 7;
    private static final int KINDS = 8;

    private static final int SHORT = 0;
    private static final int NEAR = 1;
    private static final int FAR = 2;

    private static final int WHAT_KIND = 0;
    private static final int WHAT_OPERAND = 1;
    private static final int WHAT_FORM = 2;
    private static final int WHAT_SIZE = 3;
    private static final int WHAT_ADDRESS = 4;

    private static final int MOST_ITEMS = 40;
    private static final int MOST_TEXT = 12;
    private static final int MOST_REMEMBERED = 10;
    private static final int MOST_SEARCHED = 8;
    private static final int MOST_SLACK = 50;
    private static final int LABELS = 10;
    private static final int VALUES = 100;
    private static final int LOAD_SIZE = 2;
    private static final int LITERAL_SIZE = 4;
    private static final int REACH = 60;

    // A form can grow, or shrink, twice for each of the 40 items.
    private static final int MOST_STEPS = 2 * MOST_ITEMS;

    // No item needs more than 50 bytes, its share of a pool included, so no address is above 2000.
    private static final int ADDRESSES = 2048;

    private final Program program = new Program();
    private final Program saved = new Program();
    private final History history = new History();
    private final ItemText input = new ItemText();
    private final Links links = new Links(program);
    private final Layout layout = new Layout(program, links);
    private final Transfers transfers = new Transfers(program, links, layout);
    private final FormSearch search = new FormSearch(program, links, layout);
    private final AddressSet reachable = new AddressSet(program, layout);
    private boolean somethingSaved = false;
    private int keptError = NONE;

    public BranchRelaxer() {
    }

    // ---- the program

    public int reset() {
        int before = program.count();
        program.clear();
        history.forget();
        return before;
    }

    public int itemCount() {
        return program.count();
    }

    public int append(char character) throws IllegalArgumentException, IllegalStateException {
        if (character < 32 || character > 126) {
            throw new IllegalArgumentException("the character code is out of range");
        }
        if (input.isFull()) {
            throw new IllegalStateException("the input is full");
        }
        return input.add(character);
    }

    public int insert(int position)
            throws IndexOutOfBoundsException, IllegalArgumentException, IllegalStateException {
        input.read();
        if (position < 0 || position > program.count()) {
            throw new IndexOutOfBoundsException("the position is out of range");
        }
        if (!input.isItem()) {
            keptError = input.errorIndex();
            throw new IllegalArgumentException("the input is not an item");
        }
        int kind = input.kindRead();
        int operand = input.operandRead();
        if (!isOperand(kind, operand)) {
            throw new IllegalArgumentException("the number is not possible as the operand");
        }
        if (program.isFull() || (kind == LABEL && program.defines(operand))) {
            throw new IllegalStateException("the program is full, or the label is defined already");
        }
        history.remember(program);
        program.putAt(position, kind, operand, SHORT);
        return kind;
    }

    public int errorPosition() throws NoSuchElementException {
        if (keptError == NONE) {
            throw new NoSuchElementException("no error position was kept");
        }
        return keptError;
    }

    public int remove(int item) throws IndexOutOfBoundsException {
        requireItem(item);
        history.remember(program);
        program.takeOut(item);
        return program.count();
    }

    public int move(int item, int position) throws IndexOutOfBoundsException {
        requireItem(item);
        requireItem(position);
        history.remember(program);
        int kind = program.kindAt(item);
        int operand = program.operandAt(item);
        int form = program.formAt(item);
        program.takeOut(item);
        program.putAt(position, kind, operand, form);
        return kind;
    }

    public int item(int item, int what) throws IndexOutOfBoundsException, IllegalArgumentException {
        requireItem(item);
        switch (what) {
            case WHAT_KIND:
                return program.kindAt(item);
            case WHAT_OPERAND:
                return program.operandAt(item);
            case WHAT_FORM:
                return program.formAt(item);
            case WHAT_SIZE:
                return freshLayout().sizeAt(item);
            case WHAT_ADDRESS:
                return freshLayout().addressAt(item);
            default:
                throw new IllegalArgumentException("what is not 0 to 4");
        }
    }

    public char nameCharacter(int item, int index)
            throws IndexOutOfBoundsException, NoSuchElementException {
        requireItem(item);
        String name = nameOf(program.kindAt(item));
        if (index < 0 || index >= name.length()) {
            throw new NoSuchElementException("there is no such character");
        }
        return name.charAt(index);
    }

    public int setForm(int item, int form) throws IndexOutOfBoundsException, IllegalArgumentException {
        requireItem(item);
        requireTransfer(item);
        requireForm(form);
        history.remember(program);
        int before = program.formAt(item);
        program.putForm(item, form);
        return before;
    }

    // ---- layout

    public int totalSize() {
        return freshLayout().sizeWithEndPool();
    }

    public int padding() {
        return freshLayout().paddingBytes();
    }

    public int labelAddress(int label) throws IndexOutOfBoundsException, NoSuchElementException {
        if (label < 0 || label >= LABELS) {
            throw new IndexOutOfBoundsException("the label is out of range");
        }
        freshLayout();
        int definer = links.definerOf(label);
        if (definer == NONE) {
            throw new NoSuchElementException("the label is not defined");
        }
        return layout.addressAt(definer);
    }

    public int itemAt(int address) throws IndexOutOfBoundsException {
        freshLayout();
        if (address < 0 || address >= layout.sizeOfItems()) {
            throw new IndexOutOfBoundsException("no item lies at the address");
        }
        return layout.lastItemUpTo(address);
    }

    public int addressIf(int item, int form) throws IndexOutOfBoundsException, IllegalArgumentException {
        requireItem(item);
        requireForm(form);
        links.read();
        return layout.addressWith(item, form);
    }

    public int possibleAddresses(int item) throws IndexOutOfBoundsException {
        requireItem(item);
        links.read();
        return reachable.numberAt(item);
    }

    // ---- transfers

    public int transferCount() {
        return transfers.number();
    }

    public int formCount(int form) throws IllegalArgumentException {
        requireForm(form);
        return transfers.numberWith(form);
    }

    public int undefinedCount() {
        links.read();
        return transfers.numberUndefined();
    }

    public int displacement(int item)
            throws IndexOutOfBoundsException, IllegalArgumentException, NoSuchElementException {
        requireTarget(item);
        return transfers.displacementAt(item);
    }

    public boolean fits(int item)
            throws IndexOutOfBoundsException, IllegalArgumentException, NoSuchElementException {
        requireTarget(item);
        return transfers.isFitting(item);
    }

    public int misfits() throws IllegalStateException {
        requireAllDefined();
        layout.compute();
        return transfers.numberMisfitting();
    }

    public int neededForm(int item)
            throws IndexOutOfBoundsException, IllegalArgumentException, NoSuchElementException {
        requireTarget(item);
        return formFor(transfers.displacementAt(item));
    }

    public int relax() throws IllegalStateException {
        requireAllDefined();
        history.remember(program);
        return transfers.growAll();
    }

    public int shrink() throws IllegalStateException {
        requireAllDefined();
        layout.compute();
        if (transfers.numberMisfitting() > 0) {
            throw new IllegalStateException("not all transfers fit");
        }
        history.remember(program);
        return transfers.shrinkAll();
    }

    public int leastSize() throws IllegalStateException, UnsupportedOperationException {
        requireSearchable();
        search.run();
        return search.least();
    }

    public int optimize() throws IllegalStateException, UnsupportedOperationException {
        requireSearchable();
        history.remember(program);
        search.run();
        search.takeBest();
        return search.least();
    }

    public int consistentChoices() throws IllegalStateException, UnsupportedOperationException {
        requireSearchable();
        search.run();
        return search.choicesFound();
    }

    public double averageForm() throws ArithmeticException {
        int number = transfers.number();
        if (number == 0) {
            throw new ArithmeticException("there is no transfer");
        }
        return (double) transfers.sumOfForms() / (double) number;
    }

    // ---- loads and pools

    public int poolCount() {
        links.read();
        return links.endPoolNumber();
    }

    public int literalCount(int pool) throws IndexOutOfBoundsException {
        requirePool(pool);
        return links.literalsIn(pool);
    }

    public int literal(int pool, int index) throws IndexOutOfBoundsException {
        requireLiteral(pool, index);
        return links.valueOf(pool, index);
    }

    public int literalAddress(int pool, int index) throws IndexOutOfBoundsException {
        requireLiteral(pool, index);
        return freshLayout().addressOfLiteral(pool, index, 0);
    }

    public int poolOf(int item) throws IndexOutOfBoundsException, IllegalArgumentException {
        requireLoad(item);
        links.read();
        return links.poolAt(item);
    }

    public int distance(int item) throws IndexOutOfBoundsException, IllegalArgumentException {
        requireLoad(item);
        return freshLayout().distanceWith(item, 0);
    }

    public int loadsOutOfReach() {
        return freshLayout().loadsBeyondReach();
    }

    public int slack(int item) throws IndexOutOfBoundsException, IllegalArgumentException {
        requireLoad(item);
        return freshLayout().slackOf(item);
    }

    // ---- history and saving

    public int undo() throws NoSuchElementException {
        if (history.isEmpty()) {
            throw new NoSuchElementException("no change is remembered");
        }
        return history.takeBack(program);
    }

    public int save() {
        saved.copyFrom(program);
        somethingSaved = true;
        return program.count();
    }

    public int restore() throws IllegalStateException {
        if (!somethingSaved) {
            throw new IllegalStateException("nothing was saved");
        }
        program.copyFrom(saved);
        history.forget();
        return program.count();
    }

    // ---- what the calls above share

    /** Every question about addresses lays the program out anew, so that no answer is an old one. */
    private Layout freshLayout() {
        links.read();
        layout.compute();
        return layout;
    }

    private void requireItem(int item) {
        if (!program.has(item)) {
            throw new IndexOutOfBoundsException("there is no such item");
        }
    }

    private void requireTransfer(int item) {
        if (!program.isTransfer(item)) {
            throw new IllegalArgumentException("the item is no transfer");
        }
    }

    private void requireForm(int form) {
        if (form < SHORT || form > FAR) {
            throw new IllegalArgumentException("the form is out of range");
        }
    }

    private void requireLoad(int item) {
        requireItem(item);
        if (program.kindAt(item) != LOAD) {
            throw new IllegalArgumentException("the item is no load");
        }
    }

    private void requireTarget(int item) {
        requireItem(item);
        requireTransfer(item);
        freshLayout();
        if (!transfers.isDefined(item)) {
            throw new NoSuchElementException("the label is not defined");
        }
    }

    private void requireAllDefined() {
        links.read();
        if (transfers.numberUndefined() > 0) {
            throw new IllegalStateException("the label of a transfer is not defined");
        }
    }

    private void requireSearchable() {
        requireAllDefined();
        if (transfers.number() > MOST_SEARCHED) {
            throw new UnsupportedOperationException("there are more than 8 transfers");
        }
    }

    private void requirePool(int pool) {
        links.read();
        if (pool < 0 || pool > links.endPoolNumber()) {
            throw new IndexOutOfBoundsException("there is no such pool");
        }
    }

    private void requireLiteral(int pool, int index) {
        requirePool(pool);
        if (index < 0 || index >= links.literalsIn(pool)) {
            throw new IndexOutOfBoundsException("there is no such literal");
        }
    }

    private static String nameOf(int kind) {
        switch (kind) {
            case CODE:
                return "code";
            case DATA:
                return "data";
            case LABEL:
                return "label";
            case ALIGN:
                return "align";
            case JUMP:
                return "jump";
            case BRANCH:
                return "branch";
            case LOAD:
                return "load";
            case POOL:
                return "pool";
            default:
                return "";
        }
    }

    private static boolean isOperand(int kind, int number) {
        switch (kind) {
            case CODE:
                return number >= 1 && number <= 9;
            case DATA:
                return number >= 1 && number <= 50;
            case ALIGN:
                return number >= 1 && number <= 4;
            case LABEL:
            case JUMP:
            case BRANCH:
                return number >= 0 && number < LABELS;
            case LOAD:
                return number >= 0 && number < VALUES;
            case POOL:
                return number == 0;
            default:
                return false;
        }
    }

    private static int formFor(int displacement) {
        if (displacement >= -16 && displacement <= 15) {
            return SHORT;
        }
        return displacement >= -100 && displacement <= 99 ? NEAR : FAR;
    }

    private static int jumpSize(int form) {
        return form == SHORT ? 2 : form == NEAR ? 3 : 5;
    }

    private static int branchSize(int form) {
        return form == SHORT ? 2 : form == NEAR ? 4 : 7;
    }

    /** The bytes from an address to the next multiple of a unit, which is a power of two. */
    private static int gapTo(int address, int unit) {
        return -address & (unit - 1);
    }

    /** The items in their order, each with its kind, operand and form. */
    private static final class Program {
        private final int[] kinds = new int[MOST_ITEMS];
        private final int[] operands = new int[MOST_ITEMS];
        private final int[] forms = new int[MOST_ITEMS];
        private int count = 0;

        int count() {
            return count;
        }

        boolean isFull() {
            return count >= MOST_ITEMS;
        }

        boolean has(int item) {
            return item >= 0 && item < count;
        }

        int kindAt(int item) {
            return item >= 0 && item < count ? kinds[item] : NONE;
        }

        int operandAt(int item) {
            return item >= 0 && item < count ? operands[item] : 0;
        }

        int formAt(int item) {
            return item >= 0 && item < count ? forms[item] : SHORT;
        }

        boolean isTransfer(int item) {
            int kind = kindAt(item);
            return kind == JUMP || kind == BRANCH;
        }

        boolean defines(int label) {
            for (int i = 0; i < count; i++) {
                if (kinds[i] == LABEL && operands[i] == label) {
                    return true;
                }
            }
            return false;
        }

        void clear() {
            count = 0;
        }

        void putForm(int item, int form) {
            if (has(item)) {
                forms[item] = form;
            }
        }

        void putAt(int position, int kind, int operand, int form) {
            if (isFull() || position < 0 || position > count) {
                return;
            }
            for (int i = count; i > position; i--) {
                kinds[i] = kinds[i - 1];
                operands[i] = operands[i - 1];
                forms[i] = forms[i - 1];
            }
            kinds[position] = kind;
            operands[position] = operand;
            forms[position] = form;
            count++;
        }

        void takeOut(int item) {
            if (!has(item)) {
                return;
            }
            for (int i = item; i < count - 1; i++) {
                kinds[i] = kinds[i + 1];
                operands[i] = operands[i + 1];
                forms[i] = forms[i + 1];
            }
            count--;
        }

        void copyFrom(Program other) {
            for (int i = 0; i < other.count; i++) {
                kinds[i] = other.kinds[i];
                operands[i] = other.operands[i];
                forms[i] = other.forms[i];
            }
            count = other.count;
        }
    }

    /** The programs before the last changes, in a ring whose rows are used again. */
    private static final class History {
        private final Program[] past = new Program[MOST_REMEMBERED];
        private int newest = 0;
        private int remembered = 0;

        History() {
            for (int i = 0; i < MOST_REMEMBERED; i++) {
                past[i] = new Program();
            }
        }

        boolean isEmpty() {
            return remembered == 0;
        }

        void remember(Program program) {
            newest = newest < MOST_REMEMBERED - 1 ? newest + 1 : 0;
            past[newest].copyFrom(program);
            if (remembered < MOST_REMEMBERED) {
                remembered++;
            }
        }

        int takeBack(Program program) {
            if (remembered > 0) {
                program.copyFrom(past[newest]);
                newest = newest > 0 ? newest - 1 : MOST_REMEMBERED - 1;
                remembered--;
            }
            return remembered;
        }

        void forget() {
            remembered = 0;
        }
    }

    /** The input, and what was read from it last. */
    private static final class ItemText {
        private final char[] text = new char[MOST_TEXT];
        private int length = 0;
        private int kind = NONE;
        private int operand = 0;
        private int error = 0;

        boolean isFull() {
            return length >= MOST_TEXT;
        }

        int add(char character) {
            if (!isFull()) {
                text[length] = character;
                length++;
            }
            return length;
        }

        /** Reads the item and empties the input, because an insert leaves no input behind. */
        void read() {
            kind = NONE;
            error = 0;
            for (int k = 0; k < KINDS; k++) {
                int matched = matchedBy(k);
                error = Math.max(error, matched);
                if (matched == length && length >= leastLength(k)) {
                    kind = k;
                }
            }
            operand = kind == NONE || kind == POOL ? 0 : numberFrom(nameOf(kind).length() + 1);
            length = 0;
        }

        boolean isItem() {
            return kind != NONE;
        }

        int kindRead() {
            return kind;
        }

        int operandRead() {
            return operand;
        }

        /** The longest start that some kind matches ends where the error is. */
        int errorIndex() {
            return error;
        }

        private static int leastLength(int kind) {
            int name = nameOf(kind).length();
            return kind == POOL ? name : name + 2;
        }

        /** The length of the longest start of the text with which an item of the kind can begin. */
        private int matchedBy(int kind) {
            String name = nameOf(kind);
            int at = 0;
            while (at < length && at < name.length() && text[at] == name.charAt(at)) {
                at++;
            }
            if (at < name.length() || kind == POOL || at >= length || text[at] != ' ') {
                return at;
            }
            at++;
            int end = Math.min(length, name.length() + 3);
            while (at < end && text[at] >= '0' && text[at] <= '9') {
                at++;
            }
            return at;
        }

        private int numberFrom(int start) {
            int number = 0;
            for (int i = start; i < length; i++) {
                number = number * 10 + (text[i] - '0');
            }
            return number;
        }
    }

    /** What the items alone decide, whatever the forms: definers of labels, pools and literals. */
    private static final class Links {
        private final Program program;
        private final int[] definers = new int[LABELS];
        private final int[] pools = new int[MOST_ITEMS];
        private final int[] literalIndexes = new int[MOST_ITEMS];
        private final int[] poolItems = new int[MOST_ITEMS + 1];
        private final int[] literalCounts = new int[MOST_ITEMS + 1];
        private final int[] lastPoolWith = new int[VALUES];
        private final int[] lastIndexOf = new int[VALUES];
        private int endPool = 0;

        Links(Program program) {
            this.program = program;
        }

        void read() {
            Arrays.fill(definers, NONE);
            Arrays.fill(lastPoolWith, NONE);
            endPool = 0;
            literalCounts[0] = 0;
            for (int i = 0; i < program.count() && i < MOST_ITEMS; i++) {
                readItem(i);
            }
            poolItems[endPool] = program.count();
        }

        private void readItem(int item) {
            int operand = program.operandAt(item);
            pools[item] = endPool;
            switch (program.kindAt(item)) {
                case LABEL:
                    if (operand >= 0 && operand < LABELS) {
                        definers[operand] = item;
                    }
                    break;
                case LOAD:
                    if (operand >= 0 && operand < VALUES) {
                        readLoad(item, operand);
                    }
                    break;
                case POOL:
                    if (endPool < MOST_ITEMS) {
                        poolItems[endPool] = item;
                        endPool++;
                        literalCounts[endPool] = 0;
                    }
                    break;
                default:
                    break;
            }
        }

        private void readLoad(int item, int value) {
            if (lastPoolWith[value] != endPool) {
                lastPoolWith[value] = endPool;
                lastIndexOf[value] = literalCounts[endPool];
                literalCounts[endPool]++;
            }
            literalIndexes[item] = lastIndexOf[value];
        }

        int definerOf(int label) {
            return label >= 0 && label < LABELS ? definers[label] : NONE;
        }

        int endPoolNumber() {
            return endPool;
        }

        /** The pool to which a load belongs, and of a pool item its own number. */
        int poolAt(int item) {
            return program.has(item) ? pools[item] : endPool;
        }

        int literalIndexAt(int item) {
            return program.has(item) ? literalIndexes[item] : 0;
        }

        int literalsIn(int pool) {
            return pool >= 0 && pool <= endPool ? literalCounts[pool] : 0;
        }

        /** The item that is the pool; of the end pool the number of items, as it lies behind all. */
        int itemOfPool(int pool) {
            return pool >= 0 && pool <= endPool ? poolItems[pool] : program.count();
        }

        int valueOf(int pool, int index) {
            for (int i = 0; i < program.count(); i++) {
                if (program.kindAt(i) == LOAD && pools[i] == pool && literalIndexes[i] == index) {
                    return program.operandAt(i);
                }
            }
            return 0;
        }
    }

    /** The addresses of all items with the present forms, and what follows from them. */
    private static final class Layout {
        private final Program program;
        private final Links links;
        private final int[] addresses = new int[MOST_ITEMS + 1];

        Layout(Program program, Links links) {
            this.program = program;
            this.links = links;
        }

        void compute() {
            int address = 0;
            int count = program.count();
            for (int i = 0; i < count; i++) {
                addresses[i] = address;
                address += sizeWith(i, program.formAt(i), address);
            }
            addresses[count] = address;
        }

        /** The size of an item if it had the form and lay at the address. */
        int sizeWith(int item, int form, int address) {
            switch (program.kindAt(item)) {
                case CODE:
                case DATA:
                    return program.operandAt(item);
                case ALIGN:
                    return gapTo(address, 1 << program.operandAt(item));
                case JUMP:
                    return jumpSize(form);
                case BRANCH:
                    return branchSize(form);
                case LOAD:
                    return LOAD_SIZE;
                case POOL:
                    return poolSize(links.poolAt(item), address);
                default:
                    return 0;
            }
        }

        int poolSize(int pool, int address) {
            int literals = links.literalsIn(pool);
            return literals == 0 ? 0 : gapTo(address, LITERAL_SIZE) + LITERAL_SIZE * literals;
        }

        /** The address of an item, and for the number of items the address behind all of them. */
        int addressAt(int item) {
            return item >= 0 && item <= MOST_ITEMS ? addresses[item] : 0;
        }

        int sizeAt(int item) {
            return addressAt(item + 1) - addressAt(item);
        }

        int sizeOfItems() {
            return addressAt(program.count());
        }

        int sizeWithEndPool() {
            return sizeOfItems() + poolSize(links.endPoolNumber(), sizeOfItems());
        }

        int paddingBytes() {
            int bytes = 0;
            for (int i = 0; i < program.count(); i++) {
                if (program.kindAt(i) == ALIGN) {
                    bytes += sizeAt(i);
                }
            }
            for (int pool = 0; pool <= links.endPoolNumber(); pool++) {
                int size = poolSize(pool, addressAt(links.itemOfPool(pool)));
                bytes += size - LITERAL_SIZE * links.literalsIn(pool);
            }
            return bytes;
        }

        int lastItemUpTo(int address) {
            int last = 0;
            for (int i = 0; i < program.count(); i++) {
                if (addresses[i] <= address) {
                    last = i;
                }
            }
            return last;
        }

        int addressWith(int item, int form) {
            int address = 0;
            for (int i = 0; i < item && i < program.count(); i++) {
                address += sizeWith(i, form, address);
            }
            return address;
        }

        /** The address of a literal if the pool lay the given number of bytes further behind. */
        int addressOfLiteral(int pool, int index, int further) {
            int start = addressAt(links.itemOfPool(pool)) + further;
            return start + gapTo(start, LITERAL_SIZE) + LITERAL_SIZE * index;
        }

        /** The distance of a load if its pool lay the given number of bytes further behind. */
        int distanceWith(int load, int further) {
            int literal = addressOfLiteral(links.poolAt(load), links.literalIndexAt(load), further);
            return literal - (addressAt(load) + LOAD_SIZE);
        }

        int loadsBeyondReach() {
            int number = 0;
            for (int i = 0; i < program.count(); i++) {
                if (program.kindAt(i) == LOAD && distanceWith(i, 0) > REACH) {
                    number++;
                }
            }
            return number;
        }

        int slackOf(int load) {
            for (int bytes = MOST_SLACK; bytes > 0; bytes--) {
                if (distanceWith(load, bytes) <= REACH) {
                    return bytes;
                }
            }
            return 0;
        }
    }

    /** The transfers of the program: their forms, displacements, growing and shrinking. */
    private static final class Transfers {
        private final Program program;
        private final Links links;
        private final Layout layout;

        Transfers(Program program, Links links, Layout layout) {
            this.program = program;
            this.links = links;
            this.layout = layout;
        }

        int number() {
            int number = 0;
            for (int i = 0; i < program.count(); i++) {
                if (program.isTransfer(i)) {
                    number++;
                }
            }
            return number;
        }

        int numberWith(int form) {
            int number = 0;
            for (int i = 0; i < program.count(); i++) {
                if (program.isTransfer(i) && program.formAt(i) == form) {
                    number++;
                }
            }
            return number;
        }

        int sumOfForms() {
            return numberWith(NEAR) + 2 * numberWith(FAR);
        }

        boolean isDefined(int transfer) {
            return links.definerOf(program.operandAt(transfer)) != NONE;
        }

        int numberUndefined() {
            int number = 0;
            for (int i = 0; i < program.count(); i++) {
                if (program.isTransfer(i) && !isDefined(i)) {
                    number++;
                }
            }
            return number;
        }

        int displacementAt(int transfer) {
            int definer = links.definerOf(program.operandAt(transfer));
            return layout.addressAt(definer) - layout.addressAt(transfer + 1);
        }

        boolean isFitting(int transfer) {
            return formFor(displacementAt(transfer)) <= program.formAt(transfer);
        }

        int numberMisfitting() {
            int number = 0;
            for (int i = 0; i < program.count(); i++) {
                if (program.isTransfer(i) && !isFitting(i)) {
                    number++;
                }
            }
            return number;
        }

        int growAll() {
            for (int i = 0; i < program.count(); i++) {
                program.putForm(i, SHORT);
            }
            int rounds = 0;
            while (rounds < MOST_STEPS && growMisfits()) {
                rounds++;
            }
            return rounds;
        }

        /** The layout stays as it was computed, so all transfers of a round grow at once. */
        private boolean growMisfits() {
            boolean changed = false;
            layout.compute();
            for (int i = 0; i < program.count(); i++) {
                if (program.isTransfer(i) && !isFitting(i)) {
                    program.putForm(i, formFor(displacementAt(i)));
                    changed = true;
                }
            }
            return changed;
        }

        int shrinkAll() {
            int kept = 0;
            boolean decreased = true;
            for (int pass = 0; decreased && pass <= MOST_STEPS; pass++) {
                decreased = false;
                for (int i = 0; i < program.count(); i++) {
                    if (program.formAt(i) > SHORT && shrinkIfAllFit(i)) {
                        decreased = true;
                        kept++;
                    }
                }
            }
            return kept;
        }

        private boolean shrinkIfAllFit(int transfer) {
            int form = program.formAt(transfer);
            program.putForm(transfer, form - 1);
            layout.compute();
            if (numberMisfitting() == 0) {
                return true;
            }
            program.putForm(transfer, form);
            return false;
        }
    }

    /** Tries all forms of up to eight transfers; every label of a transfer is defined then. */
    private static final class FormSearch {
        private final Program program;
        private final Links links;
        private final Layout layout;
        private final int[] addresses = new int[MOST_ITEMS + 1];
        private final int[] forms = new int[MOST_ITEMS];
        private final int[] bestForms = new int[MOST_ITEMS];
        private int choices = 0;
        private int leastTotal = 0;

        FormSearch(Program program, Links links, Layout layout) {
            this.program = program;
            this.links = links;
            this.layout = layout;
        }

        int choicesFound() {
            return choices;
        }

        int least() {
            return leastTotal;
        }

        void takeBest() {
            for (int i = 0; i < program.count(); i++) {
                program.putForm(i, bestForms[i]);
            }
        }

        void run() {
            choices = 0;
            leastTotal = 0;
            Arrays.fill(forms, SHORT);
            Arrays.fill(bestForms, SHORT);
            tryFrom(0, 0, 0);
        }

        /** An address depends on the items before it alone, so a misfit ends a branch early. */
        private void tryFrom(int item, int address, int depth) {
            if (depth > MOST_SEARCHED) {
                return;
            }
            int next = placeUpToTransfer(item, address);
            if (next == program.count()) {
                keep(addresses[next]);
            } else if (next != NONE) {
                tryForms(next, depth);
            }
        }

        private void tryForms(int transfer, int depth) {
            int here = addresses[transfer];
            for (int form = SHORT; form <= FAR; form++) {
                int behind = here + layout.sizeWith(transfer, form, here);
                forms[transfer] = form;
                if (fitsBackward(transfer, form, behind)) {
                    tryFrom(transfer + 1, behind, depth + 1);
                }
            }
        }

        /** Answers the next transfer, or the number of items, or NONE if an earlier one misfits. */
        private int placeUpToTransfer(int item, int address) {
            int here = address;
            int count = program.count();
            for (int i = item; i < count; i++) {
                addresses[i] = here;
                if (program.isTransfer(i)) {
                    return i;
                }
                if (program.kindAt(i) == LABEL && !allFitForward(i)) {
                    return NONE;
                }
                here += layout.sizeWith(i, SHORT, here);
            }
            addresses[count] = here;
            return count;
        }

        private boolean fitsBackward(int transfer, int form, int behind) {
            int definer = links.definerOf(program.operandAt(transfer));
            if (definer < 0 || definer > transfer) {
                return true;
            }
            return formFor(addresses[definer] - behind) <= form;
        }

        /** Whether the transfers before a label item that go to it fit. */
        private boolean allFitForward(int definer) {
            int label = program.operandAt(definer);
            for (int i = 0; i < definer; i++) {
                if (program.isTransfer(i) && program.operandAt(i) == label
                        && formFor(addresses[definer] - addresses[i + 1]) > forms[i]) {
                    return false;
                }
            }
            return true;
        }

        /** Choices come in ascending order of the forms, so only a smaller size replaces one. */
        private void keep(int sizeOfItems) {
            int total = sizeOfItems + layout.poolSize(links.endPoolNumber(), sizeOfItems);
            if (choices == 0 || total < leastTotal) {
                leastTotal = total;
                System.arraycopy(forms, 0, bestForms, 0, MOST_ITEMS);
            }
            choices++;
        }
    }

    /** The addresses that an item could have if all forms were free. */
    private static final class AddressSet {
        private final Program program;
        private final Layout layout;
        private final boolean[] holds = new boolean[ADDRESSES];
        private int lowest = 0;
        private int highest = 0;

        AddressSet(Program program, Layout layout) {
            this.program = program;
            this.layout = layout;
        }

        int numberAt(int item) {
            startWithZero();
            for (int i = 0; i < item && i < program.count(); i++) {
                passItem(i);
            }
            int number = 0;
            for (int a = lowest; a <= highest; a++) {
                if (holds[a]) {
                    number++;
                }
            }
            return number;
        }

        private void startWithZero() {
            for (int a = lowest; a <= highest; a++) {
                holds[a] = false;
            }
            holds[0] = true;
            lowest = 0;
            highest = 0;
        }

        /** Goes downwards, because an item only leads to addresses that have been handled then. */
        private void passItem(int item) {
            int from = highest;
            int to = lowest;
            int lastForm = program.isTransfer(item) ? FAR : SHORT;
            lowest = ADDRESSES - 1;
            highest = 0;
            for (int a = from; a >= to; a--) {
                if (holds[a]) {
                    holds[a] = false;
                    for (int form = SHORT; form <= lastForm; form++) {
                        hold(a + layout.sizeWith(item, form, a));
                    }
                }
            }
        }

        private void hold(int address) {
            if (address >= 0 && address < ADDRESSES) {
                holds[address] = true;
                lowest = Math.min(lowest, address);
                highest = Math.max(highest, address);
            }
        }
    }
}
