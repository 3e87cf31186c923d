import java.util.ArrayList;
import java.util.List;
import java.util.NoSuchElementException;

/** The document once more, in the plainest form and without a thought for speed: RandomRunsTest compares with it. */
public final class Model {
    private static final class Part {
        char kind;
        int cents;
        int grams;
    }

    private static final class Line {
        int number;
        Part parent;
        Part child;
        int position;
        int quantity;
        int scrap;
        int first;
        int last;
        Integer option;
        int choices;

        boolean holdsFor(int serial, int[] configuration) {
            return first <= serial && serial <= last
                    && (option == null || (choices >> configuration[option]) % 2 == 1);
        }
    }

    private static final class Order {
        Part part;
        int serial;
        int units;
        int[] configuration;
        boolean cancelled;
    }

    private record Entry(int part, long quantity) { }

    private final List<Part> parts = new ArrayList<>();
    private final List<Line> lines = new ArrayList<>();
    private final List<Order> orders = new ArrayList<>();
    private final int[] present = new int[4];
    private List<Float> marked = new ArrayList<>();
    private String text = "";

    private static void index(boolean fine) {
        if (!fine) {
            throw new IndexOutOfBoundsException();
        }
    }

    private static void argument(boolean fine) {
        if (!fine) {
            throw new IllegalArgumentException();
        }
    }

    private static void state(boolean fine) {
        if (!fine) {
            throw new IllegalStateException();
        }
    }

    private static void element(boolean fine) {
        if (!fine) {
            throw new NoSuchElementException();
        }
    }

    private Part part(int number) {
        index(number >= 0 && number < parts.size());
        return parts.get(number);
    }

    private Line line(int number) {
        index(number >= 0 && number < lines.size());
        return lines.get(number);
    }

    private static void serial(int number) {
        argument(number >= 1 && number <= 999);
    }

    public int addPart(char kind, int cents, int grams) {
        argument("bmp".indexOf(kind) >= 0);
        argument(cents >= 0 && cents < 100000 && grams >= 0 && grams < 100000);
        state(parts.size() < 16);
        Part part = new Part();
        part.kind = kind;
        part.cents = cents;
        part.grams = grams;
        parts.add(part);
        return parts.size() - 1;
    }

    public int setPrice(int number, int cents) {
        Part part = part(number);
        argument(cents >= 0 && cents < 100000);
        int old = part.cents;
        part.cents = cents;
        return old;
    }

    public int setGrams(int number, int grams) {
        Part part = part(number);
        argument(grams >= 0 && grams < 100000);
        int old = part.grams;
        part.grams = grams;
        return old;
    }

    public char setKind(int number, char kind) {
        Part part = part(number);
        argument("bmp".indexOf(kind) >= 0);
        char old = part.kind;
        part.kind = kind;
        return old;
    }

    public int parts() {
        return parts.size();
    }

    public char kind(int number) {
        return part(number).kind;
    }

    public int addLine(int parent, int position, int child, int quantity, int first, int last) {
        Line line = newLine(parent, position, child, quantity);
        argument(1 <= first && first <= last && last <= 999);
        line.first = first;
        line.last = last;
        insert(line);
        return line.number;
    }

    public int addVariant(int parent, int position, int child, int quantity, int option, int choices) {
        Line line = newLine(parent, position, child, quantity);
        argument(0 <= option && option <= 3 && 1 <= choices && choices <= 15);
        line.first = 1;
        line.last = 999;
        line.option = option;
        line.choices = choices;
        insert(line);
        return line.number;
    }

    private Line newLine(int parent, int position, int child, int quantity) {
        Line line = new Line();
        line.parent = part(parent);
        line.child = part(child);
        argument(1 <= position && position <= 6 && 1 <= quantity && quantity <= 20);
        line.position = position;
        line.quantity = quantity;
        line.number = lines.size();
        return line;
    }

    private void insert(Line line) {
        refuseByStructure(line);
        for (Line other : lines) {
            state(!collide(line, other));
        }
        lines.add(line);
    }

    private void refuseByStructure(Line line) {
        if (contains(line.child, line.parent)) {
            throw new UnsupportedOperationException();
        }
        lines.add(line);
        boolean tooDeep = parts.stream().anyMatch(part -> longestChain(part) > 4);
        lines.remove(line);
        state(!tooDeep && lines.size() < 40);
    }

    private boolean contains(Part whole, Part part) {
        return whole == part
                || lines.stream().anyMatch(line -> line.parent == whole && contains(line.child, part));
    }

    private int longestChain(Part part) {
        return lines.stream().filter(line -> line.parent == part)
                .mapToInt(line -> 1 + longestChain(line.child)).max().orElse(0);
    }

    private static boolean collide(Line a, Line b) {
        if (a.parent != b.parent || a.position != b.position) {
            return false;
        }
        for (int number = 0; number < 256; number++) {
            int[] configuration = {number % 4, number / 4 % 4, number / 16 % 4, number / 64};
            for (int serial : new int[] {a.first, b.first}) {
                if (a.holdsFor(serial, configuration) && b.holdsFor(serial, configuration)) {
                    return true;
                }
            }
        }
        return false;
    }

    public int replaceFrom(int number, int serial, int child, int quantity) {
        Line old = line(number);
        Line line = new Line();
        line.child = part(child);
        argument(1 <= quantity && quantity <= 20 && old.first < serial && serial <= old.last);
        line.parent = old.parent;
        line.position = old.position;
        line.option = old.option;
        line.choices = old.choices;
        line.scrap = old.scrap;
        line.quantity = quantity;
        line.first = serial;
        line.last = old.last;
        line.number = lines.size();
        refuseByStructure(line);
        old.last = serial - 1;
        insert(line);
        return line.number;
    }

    public int endBefore(int number, int serial) {
        Line line = line(number);
        argument(line.first < serial && serial <= line.last);
        int old = line.last;
        line.last = serial - 1;
        return old;
    }

    public int setScrap(int number, int percent) {
        Line line = line(number);
        argument(0 <= percent && percent <= 50);
        int old = line.scrap;
        line.scrap = percent;
        return old;
    }

    public int lines() {
        return lines.size();
    }

    public int lastSerial(int number) {
        return line(number).last;
    }

    public boolean holds(int number, int serial) {
        Line line = line(number);
        serial(serial);
        return line.holdsFor(serial, present);
    }

    public int setChoice(int option, int choice) {
        index(0 <= option && option <= 3);
        argument(0 <= choice && choice <= 3);
        int old = present[option];
        present[option] = choice;
        return old;
    }

    public int choice(int option) {
        index(0 <= option && option <= 3);
        return present[option];
    }

    private List<Line> linesOf(Part part, int serial, int[] configuration) {
        return lines.stream().filter(line -> line.parent == part && line.holdsFor(serial, configuration))
                .sorted((a, b) -> a.position - b.position).toList();
    }

    private List<Entry> directList(Part part, int serial) {
        List<Entry> list = new ArrayList<>();
        for (Line line : linesOf(part, serial, present)) {
            if (line.child.kind == 'p') {
                for (Entry entry : directList(line.child, serial)) {
                    list.add(new Entry(entry.part, line.quantity * entry.quantity));
                }
            } else {
                list.add(new Entry(parts.indexOf(line.child), line.quantity));
            }
        }
        return list;
    }

    public int listSize(int number, int serial) {
        Part part = part(number);
        serial(serial);
        return directList(part, serial).size();
    }

    private Entry entry(int number, int serial, int index) {
        Part part = part(number);
        serial(serial);
        List<Entry> list = directList(part, serial);
        element(index >= 0 && index < list.size());
        return list.get(index);
    }

    public int listPart(int part, int serial, int index) {
        return entry(part, serial, index).part;
    }

    public long listQuantity(int part, int serial, int index) {
        return entry(part, serial, index).quantity;
    }

    public int writeList(int number, int serial) {
        Part part = part(number);
        serial(serial);
        List<String> words = directList(part, serial).stream().map(entry -> entry.quantity + "x" + entry.part).toList();
        text = String.join(",", words);
        return text.length();
    }

    public char charAt(int index) {
        index(index >= 0 && index < text.length());
        return text.charAt(index);
    }

    private long amount(Part whole, Part part, int serial, int[] configuration) {
        long sum = whole == part ? 1 : 0;
        for (Line line : linesOf(whole, serial, configuration)) {
            sum += line.quantity * amount(line.child, part, serial, configuration);
        }
        return sum;
    }

    public long quantity(int number, int component, int serial) {
        Part whole = part(number);
        Part part = part(component);
        serial(serial);
        return amount(whole, part, serial, present);
    }

    public long quantityByWalking(int number, int component, int serial) {
        return quantity(number, component, serial);
    }

    public int whereUsed(int component, int serial) {
        Part part = part(component);
        serial(serial);
        return (int) parts.stream().filter(other -> other != part && amount(other, part, serial, present) > 0).count();
    }

    private int depth(Part part, int serial) {
        int depth = 0;
        for (Line line : linesOf(part, serial, present)) {
            depth = Math.max(depth, 1 + depth(line.child, serial));
        }
        return depth;
    }

    public int levels(int number, int serial) {
        Part part = part(number);
        serial(serial);
        return depth(part, serial);
    }

    private float added(Line line, int serial, int[] configuration) {
        return (float) line.quantity * (float) (100 + line.scrap) / 100.0f * price(line.child, serial, configuration);
    }

    private float price(Part part, int serial, int[] configuration) {
        float sum = (float) part.cents / 100.0f;
        for (Line line : linesOf(part, serial, configuration)) {
            sum = sum + added(line, serial, configuration);
        }
        return sum;
    }

    public float cost(int number, int serial) {
        Part part = part(number);
        serial(serial);
        return price(part, serial, present);
    }

    public float costByWalking(int part, int serial) {
        return cost(part, serial);
    }

    public int costBits(int part, int serial) {
        return Float.floatToIntBits(cost(part, serial));
    }

    public int costCents(int part, int serial) {
        return (int) (cost(part, serial) * 100.0f);
    }

    public int dearest(int number, int serial) {
        Part part = part(number);
        serial(serial);
        Line dearest = null;
        for (Line line : linesOf(part, serial, present)) {
            if (dearest == null || added(line, serial, present) > added(dearest, serial, present)) {
                dearest = line;
            }
        }
        element(dearest != null);
        return dearest.number;
    }

    private double mass(Part part, int serial) {
        double sum = (double) part.grams / 1000.0;
        for (Line line : linesOf(part, serial, present)) {
            sum = sum + (double) line.quantity * mass(line.child, serial);
        }
        return sum;
    }

    public double weight(int number, int serial) {
        Part part = part(number);
        serial(serial);
        return mass(part, serial);
    }

    public long weightBits(int part, int serial) {
        return Double.doubleToLongBits(weight(part, serial));
    }

    public int markCosts(int serial) {
        serial(serial);
        marked = new ArrayList<>();
        for (Part part : parts) {
            marked.add(price(part, serial, present));
        }
        return marked.size();
    }

    public float costChange(int number, int serial) {
        Part part = part(number);
        serial(serial);
        element(number < marked.size());
        return price(part, serial, present) - marked.get(number);
    }

    public int order(int number, int serial, int units) {
        Part part = part(number);
        serial(serial);
        argument(1 <= units && units <= 999);
        state(orders.size() < 8);
        Order order = new Order();
        order.part = part;
        order.serial = serial;
        order.units = units;
        order.configuration = present.clone();
        orders.add(order);
        return orders.size() - 1;
    }

    public int cancel(int number) {
        index(number >= 0 && number < orders.size());
        state(!orders.get(number).cancelled);
        orders.get(number).cancelled = true;
        return (int) orders.stream().filter(order -> !order.cancelled).count();
    }

    public float orderCost(int number) {
        index(number >= 0 && number < orders.size());
        Order order = orders.get(number);
        return (float) order.units * price(order.part, order.serial, order.configuration);
    }

    public long need(int component) {
        Part part = part(component);
        long sum = 0;
        for (Order order : orders) {
            sum += order.cancelled ? 0 : order.units * amount(order.part, part, order.serial, order.configuration);
        }
        return sum;
    }

    public boolean isConsistent() {
        return true;
    }
}
