import java.util.NoSuchElementException;

/** A manager of multi-level bills of materials. */
public final class BillOfMaterials {
    private static final int MAX_PARTS = 16;
    private static final int MAX_LINES = 40;
    private static final int MAX_ORDERS = 8;
    private static final int MAX_LEVELS = 4;
    private static final int MAX_CENTS = 99999;
    private static final int MAX_GRAMS = 99999;
    private static final int MAX_QUANTITY = 20;
    private static final int MAX_SCRAP = 50;
    private static final int MAX_SERIAL = 999;
    private static final int MAX_UNITS = 999;
    private static final int MAX_CHOICE = 3;
    private static final int ALL_CHOICES = 15;
    private static final int OPTIONS = 4;
    private static final int POSITIONS = 6;
    private static final int NO_LINE = -1;
    private static final int MAX_DIGITS = 19;

    private final Bill bill;
    private final OrderBook orderBook;
    private final QuantityCount quantityCount;
    private final CostRollUp costRollUp;
    private final WeightRollUp weightRollUp;
    private final DirectList directList;
    private final OutputLine output;
    private final float[] markedCosts;
    private int markedParts;
    private int configuration;

    public BillOfMaterials() {
        bill = new Bill();
        orderBook = new OrderBook();
        quantityCount = new QuantityCount();
        costRollUp = new CostRollUp();
        weightRollUp = new WeightRollUp();
        directList = new DirectList();
        output = new OutputLine();
        markedCosts = new float[MAX_PARTS];
        markedParts = 0;
        configuration = 0;
    }

    // ---- parts

    public int addPart(char kind, int cents, int grams) throws IllegalArgumentException, IllegalStateException {
        checkKind(kind);
        checkCents(cents);
        checkGrams(grams);
        if (bill.parts.count >= MAX_PARTS) {
            throw new IllegalStateException("there are 16 parts");
        }
        return bill.parts.add(kind, cents, grams);
    }

    public int setPrice(int part, int cents) throws IndexOutOfBoundsException, IllegalArgumentException {
        checkPart(part);
        checkCents(cents);
        int previous = bill.parts.cents[part];
        bill.parts.cents[part] = cents;
        return previous;
    }

    public int setGrams(int part, int grams) throws IndexOutOfBoundsException, IllegalArgumentException {
        checkPart(part);
        checkGrams(grams);
        int previous = bill.parts.grams[part];
        bill.parts.grams[part] = grams;
        return previous;
    }

    public char setKind(int part, char kind) throws IndexOutOfBoundsException, IllegalArgumentException {
        checkPart(part);
        checkKind(kind);
        char previous = bill.parts.kinds[part];
        bill.parts.kinds[part] = kind;
        return previous;
    }

    public int parts() {
        return bill.parts.count;
    }

    public char kind(int part) throws IndexOutOfBoundsException {
        checkPart(part);
        return bill.parts.kinds[part];
    }

    // ---- lines

    public int addLine(int parent, int position, int child, int quantity, int first, int last)
            throws IndexOutOfBoundsException, IllegalArgumentException,
            UnsupportedOperationException, IllegalStateException {
        checkPart(parent);
        checkPart(child);
        checkPosition(position);
        checkQuantity(quantity);
        checkRange(first, last);
        checkNoCircle(parent, child);
        checkRoomForLine(parent, child);
        // A set of all choices is fulfilled by every configuration, just as no condition is.
        checkUnique(parent, position, first, last, 0, ALL_CHOICES);
        int line = bill.add(parent, position, child, quantity);
        bill.lines.setRange(line, first, last);
        bill.lines.setCondition(line, 0, ALL_CHOICES);
        return line;
    }

    public int addVariant(int parent, int position, int child, int quantity, int option, int choices)
            throws IndexOutOfBoundsException, IllegalArgumentException,
            UnsupportedOperationException, IllegalStateException {
        checkPart(parent);
        checkPart(child);
        checkPosition(position);
        checkQuantity(quantity);
        checkCondition(option, choices);
        checkNoCircle(parent, child);
        checkRoomForLine(parent, child);
        checkUnique(parent, position, 1, MAX_SERIAL, option, choices);
        int line = bill.add(parent, position, child, quantity);
        bill.lines.setRange(line, 1, MAX_SERIAL);
        bill.lines.setCondition(line, option, choices);
        return line;
    }

    public int replaceFrom(int line, int serial, int child, int quantity)
            throws IndexOutOfBoundsException, IllegalArgumentException,
            UnsupportedOperationException, IllegalStateException {
        checkLine(line);
        checkPart(child);
        checkQuantity(quantity);
        checkCut(line, serial);
        int parent = bill.lines.parents[line];
        checkNoCircle(parent, child);
        checkRoomForLine(parent, child);
        // No collision is possible: the new line takes over what the old one alone held.
        int replacement = bill.add(parent, bill.lines.positions[line], child, quantity);
        bill.lines.setRange(replacement, serial, bill.lines.lastSerials[line]);
        bill.lines.setCondition(replacement, bill.lines.options[line], bill.lines.choiceSets[line]);
        bill.lines.scraps[replacement] = bill.lines.scraps[line];
        bill.lines.lastSerials[line] = serial - 1;
        return replacement;
    }

    public int endBefore(int line, int serial) throws IndexOutOfBoundsException, IllegalArgumentException {
        checkLine(line);
        checkCut(line, serial);
        int previous = bill.lines.lastSerials[line];
        bill.lines.lastSerials[line] = serial - 1;
        return previous;
    }

    public int setScrap(int line, int percent) throws IndexOutOfBoundsException, IllegalArgumentException {
        checkLine(line);
        if (!isBetween(percent, 0, MAX_SCRAP)) {
            throw new IllegalArgumentException("scrap rate out of range");
        }
        int previous = bill.lines.scraps[line];
        bill.lines.scraps[line] = percent;
        return previous;
    }

    public int lines() {
        return bill.lines.count;
    }

    public int lastSerial(int line) throws IndexOutOfBoundsException {
        checkLine(line);
        return bill.lines.lastSerials[line];
    }

    public boolean holds(int line, int serial) throws IndexOutOfBoundsException, IllegalArgumentException {
        checkLine(line);
        checkSerial(serial);
        return bill.lines.isHolding(line, serial, configuration);
    }

    public int setChoice(int option, int choice) throws IndexOutOfBoundsException, IllegalArgumentException {
        checkOption(option);
        if (!isBetween(choice, 0, MAX_CHOICE)) {
            throw new IllegalArgumentException("choice out of range");
        }
        int previous = choiceIn(configuration, option);
        configuration = (configuration & ~(MAX_CHOICE << (2 * option))) | (choice << (2 * option));
        return previous;
    }

    public int choice(int option) throws IndexOutOfBoundsException {
        checkOption(option);
        return choiceIn(configuration, option);
    }

    // ---- lists and quantities, for the present configuration

    public int listSize(int part, int serial) throws IndexOutOfBoundsException, IllegalArgumentException {
        makeDirectList(part, serial);
        return directList.size;
    }

    public int listPart(int part, int serial, int index)
            throws IndexOutOfBoundsException, IllegalArgumentException, NoSuchElementException {
        makeDirectList(part, serial);
        checkEntry(index);
        return directList.entryParts[index];
    }

    public long listQuantity(int part, int serial, int index)
            throws IndexOutOfBoundsException, IllegalArgumentException, NoSuchElementException {
        makeDirectList(part, serial);
        checkEntry(index);
        return directList.entryQuantities[index];
    }

    public int writeList(int part, int serial) throws IndexOutOfBoundsException, IllegalArgumentException {
        makeDirectList(part, serial);
        output.clear();
        for (int i = 0; i < directList.size; i++) {
            if (i > 0) {
                output.put(',');
            }
            output.putNumber(directList.entryQuantities[i]);
            output.put('x');
            output.putNumber(directList.entryParts[i]);
        }
        return output.size;
    }

    public char charAt(int index) throws IndexOutOfBoundsException {
        if (index < 0 || index >= output.size) {
            throw new IndexOutOfBoundsException("no such character");
        }
        return output.text[index];
    }

    public long quantity(int part, int component, int serial)
            throws IndexOutOfBoundsException, IllegalArgumentException {
        checkPart(part);
        checkPart(component);
        checkSerial(serial);
        bill.select(serial, configuration);
        return quantityCount.count(bill, part, component);
    }

    public long quantityByWalking(int part, int component, int serial)
            throws IndexOutOfBoundsException, IllegalArgumentException {
        checkPart(part);
        checkPart(component);
        checkSerial(serial);
        bill.select(serial, configuration);
        return walkQuantity(bill, part, component, 0);
    }

    public int whereUsed(int component, int serial) throws IndexOutOfBoundsException, IllegalArgumentException {
        checkPart(component);
        checkSerial(serial);
        bill.select(serial, configuration);
        int users = 0;
        for (int part = 0; part < bill.parts.count; part++) {
            if (part != component && quantityCount.count(bill, part, component) > 0) {
                users++;
            }
        }
        return users;
    }

    public int levels(int part, int serial) throws IndexOutOfBoundsException, IllegalArgumentException {
        checkPart(part);
        checkSerial(serial);
        bill.select(serial, configuration);
        return bill.heldLevelsBelow(part);
    }

    // ---- costs and weights, for the present configuration

    public float cost(int part, int serial) throws IndexOutOfBoundsException, IllegalArgumentException {
        checkPart(part);
        checkSerial(serial);
        return rolledUpCost(part, serial, configuration);
    }

    public float costByWalking(int part, int serial) throws IndexOutOfBoundsException, IllegalArgumentException {
        checkPart(part);
        checkSerial(serial);
        bill.select(serial, configuration);
        return walkCost(bill, part, 0);
    }

    public int costBits(int part, int serial) throws IndexOutOfBoundsException, IllegalArgumentException {
        checkPart(part);
        checkSerial(serial);
        return Bits.ofFloat(rolledUpCost(part, serial, configuration));
    }

    public int costCents(int part, int serial) throws IndexOutOfBoundsException, IllegalArgumentException {
        checkPart(part);
        checkSerial(serial);
        return (int) (rolledUpCost(part, serial, configuration) * 100.0f);
    }

    public int dearest(int part, int serial)
            throws IndexOutOfBoundsException, IllegalArgumentException, NoSuchElementException {
        checkPart(part);
        checkSerial(serial);
        bill.select(serial, configuration);
        costRollUp.rollUp(bill);
        int line = costRollUp.dearestLine(bill, part);
        if (line == NO_LINE) {
            throw new NoSuchElementException("the part has no lines");
        }
        return line;
    }

    public double weight(int part, int serial) throws IndexOutOfBoundsException, IllegalArgumentException {
        checkPart(part);
        checkSerial(serial);
        return rolledUpWeight(part, serial);
    }

    public long weightBits(int part, int serial) throws IndexOutOfBoundsException, IllegalArgumentException {
        checkPart(part);
        checkSerial(serial);
        return Bits.ofDouble(rolledUpWeight(part, serial));
    }

    public int markCosts(int serial) throws IllegalArgumentException {
        checkSerial(serial);
        bill.select(serial, configuration);
        costRollUp.rollUp(bill);
        markedParts = bill.parts.count;
        for (int part = 0; part < markedParts; part++) {
            markedCosts[part] = costRollUp.costs[part];
        }
        return markedParts;
    }

    public float costChange(int part, int serial)
            throws IndexOutOfBoundsException, IllegalArgumentException, NoSuchElementException {
        checkPart(part);
        checkSerial(serial);
        if (part >= markedParts) {
            throw new NoSuchElementException("no cost of this part is marked");
        }
        return rolledUpCost(part, serial, configuration) - markedCosts[part];
    }

    // ---- orders

    public int order(int part, int serial, int units)
            throws IndexOutOfBoundsException, IllegalArgumentException, IllegalStateException {
        checkPart(part);
        checkSerial(serial);
        if (!isBetween(units, 1, MAX_UNITS)) {
            throw new IllegalArgumentException("number of units out of range");
        }
        if (orderBook.count >= MAX_ORDERS) {
            throw new IllegalStateException("there are 8 orders");
        }
        return orderBook.add(part, serial, units, configuration);
    }

    public int cancel(int order) throws IndexOutOfBoundsException, IllegalStateException {
        checkOrder(order);
        if (orderBook.cancelled[order]) {
            throw new IllegalStateException("the order was cancelled before");
        }
        orderBook.cancelled[order] = true;
        return orderBook.countOpen();
    }

    public float orderCost(int order) throws IndexOutOfBoundsException {
        checkOrder(order);
        float each = rolledUpCost(
                orderBook.orderedParts[order], orderBook.serials[order], orderBook.configurations[order]);
        return (float) orderBook.units[order] * each;
    }

    public long need(int component) throws IndexOutOfBoundsException {
        checkPart(component);
        long total = 0;
        for (int order = 0; order < orderBook.count; order++) {
            if (!orderBook.cancelled[order]) {
                bill.select(orderBook.serials[order], orderBook.configurations[order]);
                total += orderBook.units[order] * quantityCount.count(bill, orderBook.orderedParts[order], component);
            }
        }
        return total;
    }

    public boolean isConsistent() {
        return bill.parts.isSound()
                && bill.lines.isSound(bill.parts.count)
                && bill.lines.isUnique()
                && bill.hasSoundSets()
                && bill.isShallow()
                && orderBook.isSound(bill.parts.count)
                && isConfiguration(configuration)
                && isBetween(markedParts, 0, bill.parts.count);
    }

    // ---- what a call refuses

    private void checkPart(int part) {
        if (part < 0 || part >= bill.parts.count) {
            throw new IndexOutOfBoundsException("no such part");
        }
    }

    private void checkLine(int line) {
        if (line < 0 || line >= bill.lines.count) {
            throw new IndexOutOfBoundsException("no such line");
        }
    }

    private void checkOrder(int order) {
        if (order < 0 || order >= orderBook.count) {
            throw new IndexOutOfBoundsException("no such order");
        }
    }

    private void checkEntry(int index) {
        if (index < 0 || index >= directList.size) {
            throw new NoSuchElementException("no such entry");
        }
    }

    private void checkCut(int line, int serial) {
        if (serial <= bill.lines.firstSerials[line] || serial > bill.lines.lastSerials[line]) {
            throw new IllegalArgumentException("the line can't be cut at this serial number");
        }
    }

    private void checkNoCircle(int parent, int child) {
        if (bill.isWithin(parent, child)) {
            throw new UnsupportedOperationException("the line would be a circle");
        }
    }

    private void checkRoomForLine(int parent, int child) {
        if (bill.levelsAbove(parent) + 1 + bill.levelsBelow(child) > MAX_LEVELS) {
            throw new IllegalStateException("the line would be too deep");
        }
        if (bill.lines.count >= MAX_LINES) {
            throw new IllegalStateException("there are 40 lines");
        }
    }

    private void checkUnique(int parent, int position, int first, int last, int option, int choices) {
        for (int line = 0; line < bill.lines.count; line++) {
            if (bill.lines.isAt(line, parent, position)
                    && bill.lines.overlaps(line, first, last)
                    && bill.lines.sharesConfiguration(line, option, choices)) {
                throw new IllegalStateException("the line would collide with another line");
            }
        }
    }

    private static void checkKind(char kind) {
        if (!isKind(kind)) {
            throw new IllegalArgumentException("no such kind");
        }
    }

    private static void checkCents(int cents) {
        if (!isBetween(cents, 0, MAX_CENTS)) {
            throw new IllegalArgumentException("price out of range");
        }
    }

    private static void checkGrams(int grams) {
        if (!isBetween(grams, 0, MAX_GRAMS)) {
            throw new IllegalArgumentException("weight out of range");
        }
    }

    private static void checkPosition(int position) {
        if (!isBetween(position, 1, POSITIONS)) {
            throw new IllegalArgumentException("position out of range");
        }
    }

    private static void checkQuantity(int quantity) {
        if (!isBetween(quantity, 1, MAX_QUANTITY)) {
            throw new IllegalArgumentException("quantity out of range");
        }
    }

    private static void checkRange(int first, int last) {
        if (!isBetween(first, 1, MAX_SERIAL) || !isBetween(last, first, MAX_SERIAL)) {
            throw new IllegalArgumentException("range of serial numbers out of range");
        }
    }

    private static void checkCondition(int option, int choices) {
        if (!isBetween(option, 0, OPTIONS - 1) || !isBetween(choices, 1, ALL_CHOICES)) {
            throw new IllegalArgumentException("condition out of range");
        }
    }

    private static void checkSerial(int serial) {
        if (!isBetween(serial, 1, MAX_SERIAL)) {
            throw new IllegalArgumentException("serial number out of range");
        }
    }

    private static void checkOption(int option) {
        if (!isBetween(option, 0, OPTIONS - 1)) {
            throw new IndexOutOfBoundsException("no such option");
        }
    }

    // ---- steps that several calls share

    private void makeDirectList(int part, int serial) {
        checkPart(part);
        checkSerial(serial);
        bill.select(serial, configuration);
        directList.clear();
        collectEntries(bill, directList, part, 1, 0);
    }

    private float rolledUpCost(int part, int serial, int forConfiguration) {
        bill.select(serial, forConfiguration);
        costRollUp.rollUp(bill);
        return costRollUp.costs[part];
    }

    private double rolledUpWeight(int part, int serial) {
        bill.select(serial, configuration);
        weightRollUp.rollUp(bill);
        return weightRollUp.weights[part];
    }

    // The depth is the number of lines walked so far; a chain has no more than MAX_LEVELS.
    private static void collectEntries(Bill bill, DirectList list, int part, long factor, int depth) {
        if (depth >= MAX_LEVELS) {
            return;
        }
        for (int position = 1; position <= POSITIONS; position++) {
            int line = bill.heldLine(part, position);
            if (line != NO_LINE) {
                int child = bill.lines.children[line];
                long entryQuantity = factor * bill.lines.quantities[line];
                if (bill.parts.kinds[child] == 'p') {
                    collectEntries(bill, list, child, entryQuantity, depth + 1);
                } else {
                    list.add(child, entryQuantity);
                }
            }
        }
    }

    private static long walkQuantity(Bill bill, int part, int component, int depth) {
        if (part == component) {
            // No chain leads from a part back to itself, so this one is at its end.
            return 1;
        }
        if (depth >= MAX_LEVELS) {
            return 0;
        }
        long sum = 0;
        for (int position = 1; position <= POSITIONS; position++) {
            int line = bill.heldLine(part, position);
            if (line != NO_LINE) {
                sum += bill.lines.quantities[line]
                        * walkQuantity(bill, bill.lines.children[line], component, depth + 1);
            }
        }
        return sum;
    }

    private static float walkCost(Bill bill, int part, int depth) {
        float sum = bill.parts.ownCost(part);
        if (depth >= MAX_LEVELS) {
            return sum;
        }
        for (int position = 1; position <= POSITIONS; position++) {
            int line = bill.heldLine(part, position);
            if (line != NO_LINE) {
                sum += bill.lines.addedCost(line, walkCost(bill, bill.lines.children[line], depth + 1));
            }
        }
        return sum;
    }

    private static boolean isBetween(int number, int lowest, int highest) {
        return number >= lowest && number <= highest;
    }

    private static boolean isKind(char sign) {
        return sign == 'b' || sign == 'm' || sign == 'p';
    }

    // A configuration is one number, with two bits for the choice of each option.
    private static int choiceIn(int configuration, int option) {
        return (configuration >> (2 * option)) & MAX_CHOICE;
    }

    private static boolean isConfiguration(int number) {
        return isBetween(number, 0, (1 << (2 * OPTIONS)) - 1);
    }

    /** The parts, by their numbers. */
    private static final class PartTable {
        final char[] kinds = new char[MAX_PARTS];
        final int[] cents = new int[MAX_PARTS];
        final int[] grams = new int[MAX_PARTS];
        int count = 0;

        int add(char kind, int ownCents, int ownGrams) {
            int part = count;
            kinds[part] = kind;
            cents[part] = ownCents;
            grams[part] = ownGrams;
            count = part + 1;
            return part;
        }

        float ownCost(int part) {
            return (float) cents[part] / 100.0f;
        }

        double ownWeight(int part) {
            return (double) grams[part] / 1000.0;
        }

        boolean isSound() {
            if (!isBetween(count, 0, MAX_PARTS)) {
                return false;
            }
            for (int part = 0; part < count; part++) {
                if (!isKind(kinds[part])
                        || !isBetween(cents[part], 0, MAX_CENTS)
                        || !isBetween(grams[part], 0, MAX_GRAMS)) {
                    return false;
                }
            }
            return true;
        }
    }

    /** The lines, by their numbers. */
    private static final class LineTable {
        final int[] parents = new int[MAX_LINES];
        final int[] positions = new int[MAX_LINES];
        final int[] children = new int[MAX_LINES];
        final int[] quantities = new int[MAX_LINES];
        final int[] scraps = new int[MAX_LINES];
        final int[] firstSerials = new int[MAX_LINES];
        final int[] lastSerials = new int[MAX_LINES];
        final int[] options = new int[MAX_LINES];
        final int[] choiceSets = new int[MAX_LINES];
        int count = 0;

        int add(int parent, int position, int child, int units) {
            int line = count;
            parents[line] = parent;
            positions[line] = position;
            children[line] = child;
            quantities[line] = units;
            scraps[line] = 0;
            count = line + 1;
            return line;
        }

        void setRange(int line, int first, int last) {
            firstSerials[line] = first;
            lastSerials[line] = last;
        }

        void setCondition(int line, int option, int choices) {
            options[line] = option;
            choiceSets[line] = choices;
        }

        boolean isHolding(int line, int serial, int configuration) {
            int chosen = 1 << choiceIn(configuration, options[line]);
            return isBetween(serial, firstSerials[line], lastSerials[line]) && (choiceSets[line] & chosen) != 0;
        }

        boolean isAt(int line, int parent, int position) {
            return parents[line] == parent && positions[line] == position;
        }

        boolean overlaps(int line, int first, int last) {
            return firstSerials[line] <= last && first <= lastSerials[line];
        }

        // No set of choices is empty, so conditions on two options can always be fulfilled together.
        boolean sharesConfiguration(int line, int option, int choices) {
            return options[line] != option || (choiceSets[line] & choices) != 0;
        }

        float addedCost(int line, float childCost) {
            return (float) quantities[line] * (float) (100 + scraps[line]) / 100.0f * childCost;
        }

        boolean isSound(int partCount) {
            if (!isBetween(count, 0, MAX_LINES)) {
                return false;
            }
            for (int line = 0; line < count; line++) {
                if (!isSoundLine(line, partCount)) {
                    return false;
                }
            }
            return true;
        }

        boolean isSoundLine(int line, int partCount) {
            return isBetween(parents[line], 0, partCount - 1)
                    && isBetween(children[line], 0, partCount - 1)
                    && isBetween(positions[line], 1, POSITIONS)
                    && isBetween(quantities[line], 1, MAX_QUANTITY)
                    && isBetween(scraps[line], 0, MAX_SCRAP)
                    && isBetween(firstSerials[line], 1, MAX_SERIAL)
                    && isBetween(lastSerials[line], firstSerials[line], MAX_SERIAL)
                    && isBetween(options[line], 0, OPTIONS - 1)
                    && isBetween(choiceSets[line], 1, ALL_CHOICES);
        }

        boolean isUnique() {
            for (int line = 0; line < count; line++) {
                for (int other = 0; other < line; other++) {
                    if (isAt(other, parents[line], positions[line])
                            && overlaps(other, firstSerials[line], lastSerials[line])
                            && sharesConfiguration(other, options[line], choiceSets[line])) {
                        return false;
                    }
                }
            }
            return true;
        }
    }

    /** The parts and the lines, and which lines hold for the selected serial number and configuration. */
    private static final class Bill {
        final PartTable parts = new PartTable();
        final LineTable lines = new LineTable();
        // A set of parts is a number whose bit p stands for the part p.
        private final int[] childSets = new int[MAX_PARTS];
        private final int[] parentSets = new int[MAX_PARTS];
        private final int[] heldChildSets = new int[MAX_PARTS];
        private final int[] heldLines = new int[MAX_PARTS * POSITIONS];

        int add(int parent, int position, int child, int units) {
            childSets[parent] |= 1 << child;
            parentSets[child] |= 1 << parent;
            return lines.add(parent, position, child, units);
        }

        void select(int serial, int configuration) {
            for (int i = 0; i < heldLines.length; i++) {
                heldLines[i] = NO_LINE;
            }
            for (int part = 0; part < MAX_PARTS; part++) {
                heldChildSets[part] = 0;
            }
            for (int line = 0; line < lines.count; line++) {
                if (lines.isHolding(line, serial, configuration)) {
                    int parent = lines.parents[line];
                    heldLines[placeOf(parent, lines.positions[line])] = line;
                    heldChildSets[parent] |= 1 << lines.children[line];
                }
            }
        }

        int heldLine(int part, int position) {
            return heldLines[placeOf(part, position)];
        }

        boolean hasHeldChildrenIn(int part, int partSet) {
            return (heldChildSets[part] & ~partSet) == 0;
        }

        int levelsBelow(int part) {
            return stepsFrom(childSets, part);
        }

        int levelsAbove(int part) {
            return stepsFrom(parentSets, part);
        }

        int heldLevelsBelow(int part) {
            return stepsFrom(heldChildSets, part);
        }

        boolean isWithin(int part, int whole) {
            int reached = 1 << whole;
            for (int level = 0; level < MAX_LEVELS; level++) {
                reached |= unionOf(childSets, reached);
            }
            return (reached & (1 << part)) != 0;
        }

        // A circle, too, would give its parts more levels than a part may have.
        boolean isShallow() {
            for (int part = 0; part < parts.count; part++) {
                if (levelsBelow(part) > MAX_LEVELS) {
                    return false;
                }
            }
            return true;
        }

        boolean hasSoundSets() {
            for (int part = 0; part < MAX_PARTS; part++) {
                int children = 0;
                int parents = 0;
                for (int line = 0; line < lines.count; line++) {
                    if (lines.parents[line] == part) {
                        children |= 1 << lines.children[line];
                    }
                    if (lines.children[line] == part) {
                        parents |= 1 << lines.parents[line];
                    }
                }
                if (childSets[part] != children || parentSets[part] != parents) {
                    return false;
                }
            }
            return true;
        }

        private static int placeOf(int part, int position) {
            return part * POSITIONS + position - 1;
        }

        private static int stepsFrom(int[] nextSets, int part) {
            int steps = 0;
            int reached = nextSets[part];
            while (reached != 0 && steps <= MAX_LEVELS) {
                steps++;
                reached = unionOf(nextSets, reached);
            }
            return steps;
        }

        private static int unionOf(int[] nextSets, int partSet) {
            int union = 0;
            for (int part = 0; part < MAX_PARTS; part++) {
                if ((partSet & (1 << part)) != 0) {
                    union |= nextSets[part];
                }
            }
            return union;
        }
    }

    /** Counts a component level by level: the amounts on each level tell those on the level below it. */
    private static final class QuantityCount {
        private final long[] amounts = new long[MAX_PARTS];
        private final long[] amountsBelow = new long[MAX_PARTS];

        long count(Bill bill, int part, int component) {
            clear(amounts);
            amounts[part] = 1;
            long total = amounts[component];
            for (int level = 0; level < MAX_LEVELS; level++) {
                goDown(bill);
                total += amounts[component];
            }
            return total;
        }

        private void goDown(Bill bill) {
            clear(amountsBelow);
            for (int part = 0; part < bill.parts.count; part++) {
                if (amounts[part] > 0) {
                    addChildrenOf(bill, part);
                }
            }
            for (int part = 0; part < MAX_PARTS; part++) {
                amounts[part] = amountsBelow[part];
            }
        }

        private void addChildrenOf(Bill bill, int part) {
            for (int position = 1; position <= POSITIONS; position++) {
                int line = bill.heldLine(part, position);
                if (line != NO_LINE) {
                    amountsBelow[bill.lines.children[line]] += amounts[part] * bill.lines.quantities[line];
                }
            }
        }

        private static void clear(long[] row) {
            for (int i = 0; i < row.length; i++) {
                row[i] = 0;
            }
        }
    }

    /** The costs of all parts, each computed after those of its children. */
    private static final class CostRollUp {
        final float[] costs = new float[MAX_PARTS];

        void rollUp(Bill bill) {
            int ready = 0;
            // A part with as many levels below it as rounds were before is ready in this round.
            for (int round = 0; round <= MAX_LEVELS; round++) {
                for (int part = 0; part < bill.parts.count; part++) {
                    if ((ready & (1 << part)) == 0 && bill.hasHeldChildrenIn(part, ready)) {
                        costs[part] = costOf(bill, part);
                        ready |= 1 << part;
                    }
                }
            }
        }

        int dearestLine(Bill bill, int part) {
            int dearestSoFar = NO_LINE;
            for (int position = 1; position <= POSITIONS; position++) {
                int line = bill.heldLine(part, position);
                if (line != NO_LINE
                        && (dearestSoFar == NO_LINE || addedBy(bill, line) > addedBy(bill, dearestSoFar))) {
                    dearestSoFar = line;
                }
            }
            return dearestSoFar;
        }

        private float costOf(Bill bill, int part) {
            float sum = bill.parts.ownCost(part);
            for (int position = 1; position <= POSITIONS; position++) {
                int line = bill.heldLine(part, position);
                if (line != NO_LINE) {
                    sum += addedBy(bill, line);
                }
            }
            return sum;
        }

        private float addedBy(Bill bill, int line) {
            return bill.lines.addedCost(line, costs[bill.lines.children[line]]);
        }
    }

    /** The weights of all parts, each computed after those of its children. */
    private static final class WeightRollUp {
        final double[] weights = new double[MAX_PARTS];

        void rollUp(Bill bill) {
            int ready = 0;
            for (int round = 0; round <= MAX_LEVELS; round++) {
                for (int part = 0; part < bill.parts.count; part++) {
                    if ((ready & (1 << part)) == 0 && bill.hasHeldChildrenIn(part, ready)) {
                        weights[part] = weightOf(bill, part);
                        ready |= 1 << part;
                    }
                }
            }
        }

        private double weightOf(Bill bill, int part) {
            double sum = bill.parts.ownWeight(part);
            for (int position = 1; position <= POSITIONS; position++) {
                int line = bill.heldLine(part, position);
                if (line != NO_LINE) {
                    sum += (double) bill.lines.quantities[line] * weights[bill.lines.children[line]];
                }
            }
            return sum;
        }
    }

    /** The entries of one direct list; the rows grow with the longest list that was asked for. */
    private static final class DirectList {
        int[] entryParts = new int[16];
        long[] entryQuantities = new long[16];
        int size = 0;

        void clear() {
            size = 0;
        }

        void add(int part, long units) {
            if (size >= entryParts.length) {
                grow();
            }
            entryParts[size] = part;
            entryQuantities[size] = units;
            size++;
        }

        private void grow() {
            int[] moreParts = new int[2 * size];
            long[] moreQuantities = new long[2 * size];
            System.arraycopy(entryParts, 0, moreParts, 0, size);
            System.arraycopy(entryQuantities, 0, moreQuantities, 0, size);
            entryParts = moreParts;
            entryQuantities = moreQuantities;
        }
    }

    /** The output line; the row grows with the longest line that was written. */
    private static final class OutputLine {
        char[] text = new char[64];
        int size = 0;

        void clear() {
            size = 0;
        }

        void put(char sign) {
            makeRoom(1);
            text[size] = sign;
            size++;
        }

        // The number is not negative.
        void putNumber(long number) {
            int digits = digitsOf(number);
            makeRoom(digits);
            long rest = number;
            for (int i = size + digits - 1; i >= size; i--) {
                text[i] = (char) ('0' + rest % 10);
                rest = rest / 10;
            }
            size += digits;
        }

        private static int digitsOf(long number) {
            int digits = 1;
            long rest = number / 10;
            while (rest > 0 && digits < MAX_DIGITS) {
                digits++;
                rest = rest / 10;
            }
            return digits;
        }

        private void makeRoom(int added) {
            if (size + added > text.length) {
                char[] more = new char[2 * (size + added)];
                System.arraycopy(text, 0, more, 0, size);
                text = more;
            }
        }
    }

    /** The orders, by their numbers. */
    private static final class OrderBook {
        final int[] orderedParts = new int[MAX_ORDERS];
        final int[] serials = new int[MAX_ORDERS];
        final int[] units = new int[MAX_ORDERS];
        final int[] configurations = new int[MAX_ORDERS];
        final boolean[] cancelled = new boolean[MAX_ORDERS];
        int count = 0;

        int add(int part, int serial, int orderedUnits, int configuration) {
            int order = count;
            orderedParts[order] = part;
            serials[order] = serial;
            units[order] = orderedUnits;
            configurations[order] = configuration;
            cancelled[order] = false;
            count = order + 1;
            return order;
        }

        int countOpen() {
            int open = 0;
            for (int order = 0; order < count; order++) {
                if (!cancelled[order]) {
                    open++;
                }
            }
            return open;
        }

        boolean isSound(int partCount) {
            if (!isBetween(count, 0, MAX_ORDERS)) {
                return false;
            }
            for (int order = 0; order < count; order++) {
                if (!isBetween(orderedParts[order], 0, partCount - 1)
                        || !isBetween(serials[order], 1, MAX_SERIAL)
                        || !isBetween(units[order], 1, MAX_UNITS)
                        || !isConfiguration(configurations[order])) {
                    return false;
                }
            }
            return true;
        }
    }

    /** The bits of numbers that are 0 or, as costs and weights are, well within the range of normal numbers. */
    private static final class Bits {
        static int ofFloat(float number) {
            if (number <= 0.0f) {
                return 0;
            }
            int exponent = 127;
            float fraction = number;
            while (fraction >= 2.0f && exponent < 254) {
                fraction = fraction / 2.0f;
                exponent++;
            }
            while (fraction < 1.0f && exponent > 1) {
                fraction = fraction * 2.0f;
                exponent--;
            }
            return (exponent << 23) | (int) ((fraction - 1.0f) * 8388608.0f);
        }

        static long ofDouble(double number) {
            if (number <= 0.0) {
                return 0;
            }
            int exponent = 1023;
            double fraction = number;
            while (fraction >= 2.0 && exponent < 2046) {
                fraction = fraction / 2.0;
                exponent++;
            }
            while (fraction < 1.0 && exponent > 1) {
                fraction = fraction * 2.0;
                exponent--;
            }
            return ((long) exponent << 52) | (long) ((fraction - 1.0) * 4503599627370496.0);
        }
    }
}
