/** Objects that tests begin with. Each method makes an equal one whenever it is called. */
final class Fixtures {
    static final int RICH_PARTS = 6;
    static final int RICH_LINES = 6;
    static final int RICH_ORDERS = 3;
    static final int RICH_CALLS = 25;

    private Fixtures() {
    }

    /** Parts of the given kinds, each of 1.00 and 1 kg. */
    static BillOfMaterials parts(String kinds) {
        BillOfMaterials bom = new BillOfMaterials();
        for (int part = 0; part < kinds.length(); part++) {
            bom.addPart(kinds.charAt(part), 100, 1000);
        }
        return bom;
    }

    /** Made parts, each of 1.00 and 1 kg. */
    static BillOfMaterials made(int count) {
        return parts("m".repeat(count));
    }

    /** Made parts, each but the last one with one line, to the next part, at the position 1 and for all numbers. */
    static BillOfMaterials chain(int lines) {
        BillOfMaterials bom = made(lines + 1);
        for (int part = 0; part < lines; part++) {
            bom.addLine(part, 1, part + 1, part + 2, 1, 999);
        }
        return bom;
    }

    /** A chain of 4 lines over the parts 0 to 4, and the part 5 beside it: no line can lead from 4 or to 0. */
    static BillOfMaterials deep() {
        BillOfMaterials bom = chain(4);
        bom.addPart('b', 100, 1000);
        return bom;
    }

    /** 16 parts and as many lines as told, each between other places, from 2 to 998 and with the scrap rate 7. */
    static BillOfMaterials lines(int count) {
        BillOfMaterials bom = made(16);
        for (int line = 0; line < count; line++) {
            bom.addLine(line / 6, line % 6 + 1, 15, line % 20 + 1, 2, 998);
            bom.setScrap(line, 7);
        }
        return bom;
    }

    /**
     * 16 parts, of 1.00 and 1 kg to 16.00 and 16 kg. The first and the last of them have lines, of which some hold for
     * 1 and others for 999 only, so every question about them has another answer for 1, for 999 and in between. The
     * costs for 500 are marked.
     */
    static BillOfMaterials edges() {
        BillOfMaterials bom = new BillOfMaterials();
        for (int part = 0; part < 16; part++) {
            bom.addPart('m', 100 * (part + 1), 1000 * (part + 1));
        }
        bom.addLine(0, 1, 7, 2, 1, 1);
        bom.addLine(0, 2, 8, 3, 999, 999);
        bom.addLine(0, 3, 9, 5, 999, 999);
        bom.addLine(15, 4, 7, 7, 1, 1);
        bom.addLine(15, 5, 8, 11, 1, 1);
        bom.addLine(15, 6, 9, 13, 999, 999);
        bom.addLine(9, 1, 10, 1, 999, 999);
        bom.addLine(14, 1, 15, 17, 1, 1);
        bom.addLine(14, 2, 0, 19, 999, 999);
        bom.markCosts(500);
        return bom;
    }

    /** Some of everything: all that a refused call could spoil has a value that isn't the first one. */
    static BillOfMaterials rich() {
        BillOfMaterials bom = new BillOfMaterials();
        bom.addPart('m', 1000, 500);
        bom.addPart('p', 20, 30);
        bom.addPart('m', 333, 70);
        bom.addPart('b', 5, 1);
        bom.addPart('b', 99999, 99999);
        bom.addLine(0, 2, 1, 2, 10, 990);
        bom.addVariant(0, 4, 2, 3, 1, 6);
        bom.addLine(1, 1, 3, 4, 1, 999);
        bom.addVariant(1, 3, 4, 5, 3, 9);
        bom.addLine(2, 5, 3, 6, 1, 500);
        bom.replaceFrom(2, 400, 2, 7);
        bom.setScrap(1, 25);
        bom.setScrap(4, 50);
        bom.setChoice(1, 2);
        bom.setChoice(2, 3);
        bom.markCosts(500);
        bom.order(0, 500, 10);
        bom.order(1, 999, 3);
        bom.cancel(1);
        bom.setChoice(0, 1);
        bom.order(0, 1, 999);
        bom.writeList(0, 500);
        bom.setPrice(3, 6);
        bom.setGrams(3, 7);
        bom.addPart('p', 44, 55);
        return bom;
    }

    /** 16 parts, 40 lines and 8 orders, with a chain of 4 lines; the order 5 is cancelled. */
    static BillOfMaterials full() {
        BillOfMaterials bom = new BillOfMaterials();
        for (int part = 0; part < 16; part++) {
            bom.addPart("bmp".charAt(part % 3), 10 * part, 20 * part);
        }
        for (int line = 0; line < 40; line++) {
            int parent = line / 6;
            boolean inChain = line % 6 == 0 && parent < 3;
            bom.addLine(parent, line % 6 + 1, inChain ? parent + 1 : 7 + line % 9, line % 20 + 1, 1, 960 + line);
        }
        for (int order = 0; order < 8; order++) {
            bom.order(order, 100 * order + 1, 100 + order);
        }
        bom.cancel(5);
        bom.setScrap(39, 50);
        bom.setChoice(3, 3);
        bom.markCosts(980);
        bom.writeList(15, 1);
        return bom;
    }

    /** What writeList writes, read by charAt. */
    static String written(BillOfMaterials bom, int part, int serial) {
        int length = bom.writeList(part, serial);
        StringBuilder text = new StringBuilder();
        for (int i = 0; i < length; i++) {
            text.append(bom.charAt(i));
        }
        return text.toString();
    }
}
