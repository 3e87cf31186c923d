/** Promises 1 to 7. */
public final class PartsTest {
    private static final Class<?> INDEX = IndexOutOfBoundsException.class;
    private static final Class<?> ARGUMENT = IllegalArgumentException.class;
    private static final Class<?> STATE = IllegalStateException.class;
    private static final Check CHECK = new Check("PartsTest");

    public static void main(String[] args) {
        newObject();
        addPart();
        setPrice();
        setGrams();
        setKind();
        CHECK.finish();
    }

    private static void newObject() {
        BillOfMaterials bom = new BillOfMaterials();
        CHECK.due(0, "parts of a new object", () -> bom.parts());
        CHECK.due(0, "lines of a new object", () -> bom.lines());
        CHECK.due(true, "isConsistent of a new object", () -> bom.isConsistent());
        CHECK.due(0, "choice 0 of a new object", () -> bom.choice(0));
        CHECK.due(0, "choice 3 of a new object", () -> bom.choice(3));
        CHECK.due(INDEX, "kind(0) of a new object", () -> bom.kind(0));
        CHECK.due(INDEX, "lastSerial(0) of a new object", () -> bom.lastSerial(0));
        CHECK.due(INDEX, "orderCost(0) of a new object", () -> bom.orderCost(0));
        CHECK.due(INDEX, "charAt(0) of a new object", () -> bom.charAt(0));
        CHECK.due(INDEX, "need(0) of a new object", () -> bom.need(0));
        CHECK.due(0, "markCosts of a new object", () -> bom.markCosts(999));
    }

    private static void addPart() {
        BillOfMaterials bom = new BillOfMaterials();
        CHECK.due(0, "addPart b", () -> bom.addPart('b', 0, 0));
        CHECK.due(1, "addPart m", () -> bom.addPart('m', 99999, 99999));
        CHECK.due(2, "addPart p", () -> bom.addPart('p', 1, 2));
        CHECK.due(ARGUMENT, "addPart a", () -> bom.addPart('a', 0, 0));
        CHECK.due(ARGUMENT, "addPart B", () -> bom.addPart('B', 0, 0));
        CHECK.due(ARGUMENT, "addPart with the sign 0", () -> bom.addPart((char) 0, 0, 0));
        CHECK.due(ARGUMENT, "addPart with the greatest sign", () -> bom.addPart((char) 65535, 0, 0));
        CHECK.due(ARGUMENT, "addPart price -1", () -> bom.addPart('b', -1, 0));
        CHECK.due(ARGUMENT, "addPart price 100000", () -> bom.addPart('b', 100000, 0));
        CHECK.due(ARGUMENT, "addPart weight -1", () -> bom.addPart('b', 0, -1));
        CHECK.due(ARGUMENT, "addPart weight 100000", () -> bom.addPart('b', 0, 100000));
        CHECK.due(3, "parts after refusals", () -> bom.parts());
        CHECK.due('b', "kind(0)", () -> bom.kind(0));
        CHECK.due('m', "kind(1)", () -> bom.kind(1));
        CHECK.due('p', "kind(2)", () -> bom.kind(2));
        CHECK.due(INDEX, "kind(3)", () -> bom.kind(3));
        CHECK.due(INDEX, "kind(-1)", () -> bom.kind(-1));
        CHECK.due(INDEX, "kind(least int)", () -> bom.kind(Integer.MIN_VALUE));
        CHECK.due(999.99f, "cost(1)", () -> bom.cost(1, 1));
        CHECK.due(0.002, "weight(2)", () -> bom.weight(2, 1));
        for (int part = 3; part < 16; part++) {
            int want = part;
            CHECK.due(want, "addPart " + part, () -> bom.addPart('b', want, want));
        }
        CHECK.due(STATE, "addPart 16", () -> bom.addPart('b', 0, 0));
        CHECK.due(ARGUMENT, "addPart 16 of a wrong kind", () -> bom.addPart('x', 0, 0));
        CHECK.due(ARGUMENT, "addPart 16 with a wrong price", () -> bom.addPart('b', -1, 0));
        CHECK.due(ARGUMENT, "addPart 16 with a wrong weight", () -> bom.addPart('b', 0, -1));
        CHECK.due(16, "parts when full", () -> bom.parts());
        CHECK.due('b', "kind(15)", () -> bom.kind(15));
        CHECK.due(INDEX, "kind(16)", () -> bom.kind(16));
        CHECK.due(true, "isConsistent when full", () -> bom.isConsistent());
    }

    private static void setPrice() {
        BillOfMaterials bom = new BillOfMaterials();
        bom.addPart('b', 5, 7);
        bom.addPart('b', 6, 8);
        CHECK.due(5, "setPrice(0, 99999)", () -> bom.setPrice(0, 99999));
        CHECK.due(99999, "setPrice(0, 0)", () -> bom.setPrice(0, 0));
        CHECK.due(0, "setPrice(0, 12)", () -> bom.setPrice(0, 12));
        CHECK.due(ARGUMENT, "setPrice(0, -1)", () -> bom.setPrice(0, -1));
        CHECK.due(ARGUMENT, "setPrice(0, 100000)", () -> bom.setPrice(0, 100000));
        CHECK.due(INDEX, "setPrice(2, 0)", () -> bom.setPrice(2, 0));
        CHECK.due(INDEX, "setPrice(-1, 0)", () -> bom.setPrice(-1, 0));
        CHECK.due(INDEX, "setPrice(2, -1)", () -> bom.setPrice(2, -1));
        CHECK.due(0.12f, "cost(0) after setPrice", () -> bom.cost(0, 1));
        CHECK.due(0.06f, "cost(1) after setPrice of 0", () -> bom.cost(1, 1));
        CHECK.due(0.007, "weight(0) after setPrice", () -> bom.weight(0, 1));
        CHECK.due(12, "setPrice after refusals", () -> bom.setPrice(0, 1));
    }

    private static void setGrams() {
        BillOfMaterials bom = new BillOfMaterials();
        bom.addPart('b', 5, 7);
        bom.addPart('b', 6, 8);
        CHECK.due(7, "setGrams(0, 99999)", () -> bom.setGrams(0, 99999));
        CHECK.due(99999, "setGrams(0, 0)", () -> bom.setGrams(0, 0));
        CHECK.due(0, "setGrams(0, 12)", () -> bom.setGrams(0, 12));
        CHECK.due(ARGUMENT, "setGrams(0, -1)", () -> bom.setGrams(0, -1));
        CHECK.due(ARGUMENT, "setGrams(0, 100000)", () -> bom.setGrams(0, 100000));
        CHECK.due(INDEX, "setGrams(2, 0)", () -> bom.setGrams(2, 0));
        CHECK.due(INDEX, "setGrams(-1, 0)", () -> bom.setGrams(-1, 0));
        CHECK.due(INDEX, "setGrams(2, -1)", () -> bom.setGrams(2, -1));
        CHECK.due(0.012, "weight(0) after setGrams", () -> bom.weight(0, 1));
        CHECK.due(0.008, "weight(1) after setGrams of 0", () -> bom.weight(1, 1));
        CHECK.due(0.05f, "cost(0) after setGrams", () -> bom.cost(0, 1));
        CHECK.due(12, "setGrams after refusals", () -> bom.setGrams(0, 1));
    }

    private static void setKind() {
        BillOfMaterials bom = new BillOfMaterials();
        bom.addPart('b', 0, 0);
        bom.addPart('m', 0, 0);
        CHECK.due('b', "setKind(0, p)", () -> bom.setKind(0, 'p'));
        CHECK.due('p', "setKind(0, m)", () -> bom.setKind(0, 'm'));
        CHECK.due('m', "setKind(0, b)", () -> bom.setKind(0, 'b'));
        CHECK.due(ARGUMENT, "setKind(0, c)", () -> bom.setKind(0, 'c'));
        CHECK.due(ARGUMENT, "setKind(0, P)", () -> bom.setKind(0, 'P'));
        CHECK.due(INDEX, "setKind(2, b)", () -> bom.setKind(2, 'b'));
        CHECK.due(INDEX, "setKind(-1, b)", () -> bom.setKind(-1, 'b'));
        CHECK.due(INDEX, "setKind(2, c)", () -> bom.setKind(2, 'c'));
        CHECK.due('b', "kind(0) after refusals", () -> bom.kind(0));
        CHECK.due('m', "kind(1) after setKind of 0", () -> bom.kind(1));
    }
}
