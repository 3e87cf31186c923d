import java.util.NoSuchElementException;

/** Promises 18 to 26. */
public final class ListsTest {
    private static final Class<?> INDEX = IndexOutOfBoundsException.class;
    private static final Class<?> ARGUMENT = IllegalArgumentException.class;
    private static final Class<?> ELEMENT = NoSuchElementException.class;
    private static final Check CHECK = new Check("ListsTest");

    public static void main(String[] args) {
        lists();
        listRefusals();
        outputLine();
        longestList();
        growingList();
        quantities();
        quantityRefusals();
        greatestQuantity();
        whereUsed();
        levels();
        CHECK.finish();
    }

    private static BillOfMaterials withParts(String kinds) {
        BillOfMaterials bom = new BillOfMaterials();
        for (int part = 0; part < kinds.length(); part++) {
            bom.addPart(kinds.charAt(part), 100, 1000);
        }
        return bom;
    }

    private static String written(BillOfMaterials bom, int part, int serial) {
        int length = bom.writeList(part, serial);
        StringBuilder text = new StringBuilder();
        for (int i = 0; i < length; i++) {
            text.append(bom.charAt(i));
        }
        return text.toString();
    }

    /** Lines added against the order of positions, with phantoms inside phantoms and an entry twice. */
    private static BillOfMaterials nested() {
        BillOfMaterials bom = withParts("mpmpbp");
        bom.addLine(0, 5, 4, 7, 1, 999);
        bom.addLine(0, 2, 1, 2, 1, 999);
        bom.addLine(0, 1, 2, 1, 100, 999);
        bom.addLine(1, 4, 3, 3, 1, 999);
        bom.addLine(1, 1, 4, 5, 1, 999);
        bom.addLine(3, 6, 2, 20, 1, 999);
        bom.addVariant(3, 2, 4, 11, 1, 2);
        bom.addLine(2, 1, 4, 9, 1, 999);
        bom.addLine(0, 3, 5, 6, 1, 999);
        return bom;
    }

    private static void lists() {
        BillOfMaterials bom = nested();
        CHECK.due("10x4,120x2,7x4", "the list of 0 for 1", () -> written(bom, 0, 1));
        CHECK.due(3, "listSize(0, 1)", () -> bom.listSize(0, 1));
        CHECK.due("1x2,10x4,120x2,7x4", "the list of 0 for 100", () -> written(bom, 0, 100));
        bom.setChoice(1, 1);
        CHECK.due("10x4,66x4,120x2,7x4", "the list of 0 with a variant", () -> written(bom, 0, 99));
        CHECK.due(4, "listSize(0, 99)", () -> bom.listSize(0, 99));
        int[] parts = {4, 4, 2, 4};
        long[] quantities = {10, 66, 120, 7};
        for (int i = 0; i < 4; i++) {
            int index = i;
            CHECK.due(parts[i], "listPart " + i, () -> bom.listPart(0, 99, index));
            CHECK.due(quantities[i], "listQuantity " + i, () -> bom.listQuantity(0, 99, index));
        }
        CHECK.due("5x4,33x4,60x2", "the list of a phantom itself", () -> written(bom, 1, 99));
        CHECK.due("9x4", "the list of a made part", () -> written(bom, 2, 99));
        CHECK.due("", "the list of a bought part", () -> written(bom, 4, 99));
        CHECK.due(0, "listSize of a bought part", () -> bom.listSize(4, 99));
        bom.setKind(1, 'b');
        CHECK.due("2x1,7x4", "the list when 1 is bought", () -> written(bom, 0, 99));
        bom.setKind(1, 'm');
        CHECK.due("2x1,7x4", "the list when 1 is made", () -> written(bom, 0, 99));
        bom.setKind(1, 'p');
        bom.setKind(4, 'p');
        CHECK.due("120x2", "the list when 4 is an empty phantom", () -> written(bom, 0, 99));
        bom.setKind(2, 'p');
        CHECK.due(0, "listSize when all are phantoms", () -> bom.listSize(0, 99));
    }

    private static void listRefusals() {
        BillOfMaterials bom = nested();
        CHECK.due(INDEX, "listSize(6, 1)", () -> bom.listSize(6, 1));
        CHECK.due(INDEX, "listSize(-1, 0)", () -> bom.listSize(-1, 0));
        CHECK.due(ARGUMENT, "listSize(0, 0)", () -> bom.listSize(0, 0));
        CHECK.due(ARGUMENT, "listSize(0, 1000)", () -> bom.listSize(0, 1000));
        CHECK.due(INDEX, "listPart(6, 1, 0)", () -> bom.listPart(6, 1, 0));
        CHECK.due(INDEX, "listPart(-1, 0, 9)", () -> bom.listPart(-1, 0, 9));
        CHECK.due(ARGUMENT, "listPart(0, 0, 9)", () -> bom.listPart(0, 0, 9));
        CHECK.due(ARGUMENT, "listPart(0, 1000, 0)", () -> bom.listPart(0, 1000, 0));
        CHECK.due(ELEMENT, "listPart(0, 1, 3)", () -> bom.listPart(0, 1, 3));
        CHECK.due(ELEMENT, "listPart(0, 1, -1)", () -> bom.listPart(0, 1, -1));
        CHECK.due(ELEMENT, "listPart(4, 1, 0)", () -> bom.listPart(4, 1, 0));
        CHECK.due(INDEX, "listQuantity(6, 1, 0)", () -> bom.listQuantity(6, 1, 0));
        CHECK.due(INDEX, "listQuantity(-1, 0, 9)", () -> bom.listQuantity(-1, 0, 9));
        CHECK.due(ARGUMENT, "listQuantity(0, 0, 9)", () -> bom.listQuantity(0, 0, 9));
        CHECK.due(ARGUMENT, "listQuantity(0, 1000, 0)", () -> bom.listQuantity(0, 1000, 0));
        CHECK.due(ELEMENT, "listQuantity(0, 1, 3)", () -> bom.listQuantity(0, 1, 3));
        CHECK.due(ELEMENT, "listQuantity(0, 1, -1)", () -> bom.listQuantity(0, 1, -1));
        CHECK.due(ELEMENT, "listQuantity(0, 1, greatest)", () -> bom.listQuantity(0, 1, Integer.MAX_VALUE));
    }

    private static void outputLine() {
        BillOfMaterials bom = nested();
        CHECK.due(INDEX, "charAt(0) before the first line", () -> bom.charAt(0));
        CHECK.due(14, "writeList(0, 1)", () -> bom.writeList(0, 1));
        CHECK.due(INDEX, "writeList(6, 1)", () -> bom.writeList(6, 1));
        CHECK.due(INDEX, "writeList(-1, 0)", () -> bom.writeList(-1, 0));
        CHECK.due(ARGUMENT, "writeList(4, 0)", () -> bom.writeList(4, 0));
        CHECK.due(ARGUMENT, "writeList(4, 1000)", () -> bom.writeList(4, 1000));
        bom.listSize(4, 1);
        bom.setKind(1, 'm');
        CHECK.due('1', "charAt(0)", () -> bom.charAt(0));
        CHECK.due('x', "charAt(2)", () -> bom.charAt(2));
        CHECK.due(',', "charAt(4)", () -> bom.charAt(4));
        CHECK.due('4', "charAt(13)", () -> bom.charAt(13));
        CHECK.due(INDEX, "charAt(14)", () -> bom.charAt(14));
        CHECK.due(INDEX, "charAt(-1)", () -> bom.charAt(-1));
        CHECK.due(INDEX, "charAt(64)", () -> bom.charAt(64));
        CHECK.due(3, "writeList(2, 1)", () -> bom.writeList(2, 1));
        CHECK.due('9', "charAt(0) of a shorter line", () -> bom.charAt(0));
        CHECK.due(INDEX, "charAt(3) of a shorter line", () -> bom.charAt(3));
        CHECK.due(0, "writeList of an empty list", () -> bom.writeList(4, 1));
        CHECK.due(INDEX, "charAt(0) of an empty line", () -> bom.charAt(0));
    }

    /** Six lines on each of four levels: 1296 entries of 160000, the most that a list can have. */
    private static void longestList() {
        BillOfMaterials bom = withParts("ppppmmmmmmmmmmmm");
        for (int part = 0; part < 4; part++) {
            for (int position = 1; position <= 6; position++) {
                bom.addLine(part, position, part == 3 ? 15 : part + 1, 20, 1, 999);
            }
        }
        CHECK.due(1296, "listSize of the longest list", () -> bom.listSize(0, 1));
        CHECK.due(160000L, "its first quantity", () -> bom.listQuantity(0, 1, 0));
        CHECK.due(160000L, "its last quantity", () -> bom.listQuantity(0, 1, 1295));
        CHECK.due(15, "its last part", () -> bom.listPart(0, 1, 1295));
        CHECK.due(ELEMENT, "behind its last part", () -> bom.listPart(0, 1, 1296));
        CHECK.due(12959, "writeList of the longest list", () -> bom.writeList(0, 1));
        CHECK.due("160000x15,".repeat(1296).substring(0, 12959), "its text", () -> written(bom, 0, 1));
        CHECK.due(INDEX, "behind its last character", () -> bom.charAt(12959));
        CHECK.due("20x15,20x15,20x15,20x15,20x15,20x15", "a shorter list then", () -> written(bom, 3, 1));
    }

    /** More entries than fit into the first rows, each different from its neighbours. */
    private static void growingList() {
        BillOfMaterials bom = withParts("ppmmmmmmmmmmmmmm");
        StringBuilder want = new StringBuilder();
        for (int position = 1; position <= 6; position++) {
            bom.addLine(0, position, 1, position, 1, 999);
            bom.addLine(1, position, 9 + position, 21 - position, 1, 999);
        }
        for (int entry = 0; entry < 36; entry++) {
            int factor = entry / 6 + 1;
            int position = entry % 6 + 1;
            want.append(entry > 0 ? "," : "").append(factor * (21 - position)).append('x').append(9 + position);
        }
        CHECK.due(11, "listPart where the list has just grown", () -> bom.listPart(0, 1, 7));
        CHECK.due(18L, "listQuantity of the grown list", () -> bom.listQuantity(0, 1, 2));
        CHECK.due(want.toString(), "the text of a growing list", () -> written(bom, 0, 1));
        BillOfMaterials other = withParts("ppm");
        for (int position = 1; position <= 6; position++) {
            other.addLine(0, position, 1, position, 1, 999);
            other.addLine(1, position, 2, 21 - position, 1, 999);
        }
        for (int entry = 35; entry >= 0; entry--) {
            int index = entry;
            CHECK.due((long) (entry / 6 + 1) * (20 - entry % 6), "listQuantity " + entry,
                    () -> other.listQuantity(0, 1, index));
        }
    }

    private static void quantities() {
        BillOfMaterials bom = nested();
        CHECK.due(120L, "quantityByWalking as the first question", () -> bom.quantityByWalking(0, 2, 99));
        CHECK.due(121L, "quantityByWalking for another number", () -> bom.quantityByWalking(0, 2, 100));
        int[] components = {0, 1, 2, 3, 4, 5};
        long[] atFirst = {1, 2, 120, 6, 7 + 10 + 120 * 9, 6};
        long[] withVariant = {1, 2, 121, 6, 7 + 10 + 66 + 121 * 9, 6};
        for (int component : components) {
            CHECK.due(atFirst[component], "quantity of " + component, () -> bom.quantity(0, component, 99));
            CHECK.due(atFirst[component], "quantity by walking of " + component,
                    () -> bom.quantityByWalking(0, component, 99));
        }
        bom.setChoice(1, 1);
        bom.setScrap(0, 50);
        for (int component : components) {
            CHECK.due(withVariant[component], "quantity with a variant of " + component,
                    () -> bom.quantity(0, component, 100));
            CHECK.due(withVariant[component], "quantity with a variant by walking of " + component,
                    () -> bom.quantityByWalking(0, component, 100));
        }
        CHECK.due(0L, "quantity of a part that contains it", () -> bom.quantity(4, 0, 1));
        CHECK.due(0L, "the same by walking", () -> bom.quantityByWalking(4, 0, 1));
        CHECK.due(1L, "quantity of a bought part in itself", () -> bom.quantity(4, 4, 1));
        CHECK.due(1L, "the same by walking", () -> bom.quantityByWalking(4, 4, 1));
    }

    private static void quantityRefusals() {
        BillOfMaterials bom = nested();
        CHECK.due(INDEX, "quantity(6, 0, 1)", () -> bom.quantity(6, 0, 1));
        CHECK.due(INDEX, "quantity(0, 6, 1)", () -> bom.quantity(0, 6, 1));
        CHECK.due(INDEX, "quantity(-1, 0, 1)", () -> bom.quantity(-1, 0, 1));
        CHECK.due(INDEX, "quantity(0, -1, 0)", () -> bom.quantity(0, -1, 0));
        CHECK.due(ARGUMENT, "quantity(0, 0, 0)", () -> bom.quantity(0, 0, 0));
        CHECK.due(ARGUMENT, "quantity(0, 1, 1000)", () -> bom.quantity(0, 1, 1000));
        CHECK.due(INDEX, "quantityByWalking(6, 0, 1)", () -> bom.quantityByWalking(6, 0, 1));
        CHECK.due(INDEX, "quantityByWalking(0, 6, 1)", () -> bom.quantityByWalking(0, 6, 1));
        CHECK.due(INDEX, "quantityByWalking(-1, 0, 1)", () -> bom.quantityByWalking(-1, 0, 1));
        CHECK.due(INDEX, "quantityByWalking(0, -1, 0)", () -> bom.quantityByWalking(0, -1, 0));
        CHECK.due(ARGUMENT, "quantityByWalking(0, 0, 0)", () -> bom.quantityByWalking(0, 0, 0));
        CHECK.due(ARGUMENT, "quantityByWalking(0, 1, 1000)", () -> bom.quantityByWalking(0, 1, 1000));
    }

    private static void greatestQuantity() {
        BillOfMaterials bom = withParts("mmmmm");
        for (int part = 0; part < 4; part++) {
            for (int position = 1; position <= 6; position++) {
                bom.addLine(part, position, part + 1, 20, 1, 999);
            }
        }
        CHECK.due(207360000L, "the greatest quantity", () -> bom.quantity(0, 4, 999));
        CHECK.due(207360000L, "the greatest quantity by walking", () -> bom.quantityByWalking(0, 4, 999));
        for (int order = 0; order < 8; order++) {
            bom.order(0, 999, 999);
        }
        CHECK.due(8L * 999 * 207360000L, "the greatest need", () -> bom.need(4));
    }

    private static void whereUsed() {
        BillOfMaterials bom = nested();
        CHECK.due(4, "whereUsed(4, 1)", () -> bom.whereUsed(4, 1));
        CHECK.due(3, "whereUsed(2, 1)", () -> bom.whereUsed(2, 1));
        CHECK.due(0, "whereUsed(0, 1)", () -> bom.whereUsed(0, 1));
        bom.endBefore(5, 500);
        CHECK.due(1, "whereUsed(2, 500)", () -> bom.whereUsed(2, 500));
        CHECK.due(3, "whereUsed(2, 499)", () -> bom.whereUsed(2, 499));
        CHECK.due(3, "whereUsed(4, 999)", () -> bom.whereUsed(4, 999));
        bom.setChoice(1, 1);
        CHECK.due(4, "whereUsed(4, 999) with a variant", () -> bom.whereUsed(4, 999));
        BillOfMaterials full = withParts("mmmmmmmmmmmmmmmm");
        full.addLine(15, 6, 0, 1, 1, 60);
        full.addLine(15, 5, 1, 1, 61, 999);
        full.addLine(0, 1, 14, 1, 1, 700);
        full.addLine(1, 1, 14, 1, 1, 999);
        CHECK.due(3, "whereUsed(14) of 16 parts", () -> full.whereUsed(14, 1));
        CHECK.due(2, "whereUsed(14) of 16 parts for another number", () -> full.whereUsed(14, 701));
        CHECK.due(1, "whereUsed(0) by the last part", () -> full.whereUsed(0, 60));
        CHECK.due(0, "whereUsed(0) behind its line", () -> full.whereUsed(0, 61));
        CHECK.due(2, "levels of the last part", () -> full.levels(15, 61));
        CHECK.due(1, "levels of the first part", () -> full.levels(0, 700));
        CHECK.due(0, "levels of the first part behind its line", () -> full.levels(0, 701));
        CHECK.due(INDEX, "whereUsed(6, 1)", () -> bom.whereUsed(6, 1));
        CHECK.due(INDEX, "whereUsed(-1, 0)", () -> bom.whereUsed(-1, 0));
        CHECK.due(ARGUMENT, "whereUsed(0, 0)", () -> bom.whereUsed(0, 0));
        CHECK.due(ARGUMENT, "whereUsed(0, 1000)", () -> bom.whereUsed(0, 1000));
    }

    private static void levels() {
        BillOfMaterials bom = nested();
        int[] want = {4, 3, 1, 2, 0, 0};
        for (int part = 0; part < 6; part++) {
            int asked = part;
            CHECK.due(want[part], "levels of " + part, () -> bom.levels(asked, 1));
        }
        bom.endBefore(7, 500);
        CHECK.due(3, "levels with an ended line", () -> bom.levels(0, 500));
        bom.endBefore(5, 400);
        CHECK.due(2, "levels with two ended lines", () -> bom.levels(0, 500));
        CHECK.due(0, "levels with all lines ended", () -> bom.levels(3, 400));
        bom.setChoice(1, 1);
        CHECK.due(3, "levels with a variant", () -> bom.levels(0, 500));
        CHECK.due(INDEX, "levels(6, 1)", () -> bom.levels(6, 1));
        CHECK.due(INDEX, "levels(-1, 0)", () -> bom.levels(-1, 0));
        CHECK.due(ARGUMENT, "levels(0, 0)", () -> bom.levels(0, 0));
        CHECK.due(ARGUMENT, "levels(0, 1000)", () -> bom.levels(0, 1000));
    }
}
