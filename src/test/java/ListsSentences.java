/** The sentences of the promises 18 to 26, each with its boundary cases. */
final class ListsSentences {
    private static final Class<?> INDEX = Sentences.INDEX;
    private static final Class<?> ARGUMENT = Sentences.ARGUMENT;
    private static final Class<?> ELEMENT = Sentences.ELEMENT;
    private static final int[] NO_ENTRIES = {4, 5, 16, 1000, -1, -4, Integer.MIN_VALUE, Integer.MAX_VALUE};

    private interface Entry {
        Object of(BillOfMaterials bom, int part, int serial, int index);
    }

    private interface Quantity {
        Object of(BillOfMaterials bom, int part, int component, int serial);
    }

    private ListsSentences() {
    }

    static void all(Sentences s) {
        listSize(s);
        listPart(s);
        listQuantity(s);
        writeList(s);
        charAt(s);
        s.section("Promise 23: quantity");
        quantity(s, "Returns the quantity of a component in a part, computed level by level.",
                BillOfMaterials::quantity);
        s.section("Promise 24: quantityByWalking");
        quantity(s, "Returns the same quantity, by walking through every chain.", BillOfMaterials::quantityByWalking);
        whereUsed(s);
        levels(s);
    }

    /** Six lines to phantoms on each of four levels: 1296 entries of 160000, the most that a list can have. */
    private static BillOfMaterials longest() {
        BillOfMaterials bom = Fixtures.parts("ppppmmmmmmmmmmmm");
        for (int part = 0; part < 4; part++) {
            for (int position = 1; position <= 6; position++) {
                bom.addLine(part, position, part == 3 ? 9 + position : part + 1, 20, 1, 999);
            }
        }
        return bom;
    }

    private static String longestText() {
        StringBuilder text = new StringBuilder();
        for (int entry = 0; entry < 1296; entry++) {
            text.append(entry > 0 ? "," : "").append("160000x").append(10 + entry % 6);
        }
        return text.toString();
    }

    // ---- promises 18 to 22

    private static void listSize(Sentences s) {
        s.section("Promise 18: listSize");
        s.test("Returns the number of entries of the direct list of a part.", t -> {
            BillOfMaterials bom = Fixtures.parts("mpb");
            t.due(0, "without lines", bom, b -> b.listSize(0, 1));
            bom.addLine(0, 1, 1, 1, 1, 999);
            t.due(0, "with an empty phantom", bom, b -> b.listSize(0, 1));
            bom.addLine(1, 1, 2, 1, 1, 999);
            t.due(1, "with a phantom of one line", bom, b -> b.listSize(0, 1));
            bom.addLine(1, 6, 2, 1, 1, 999);
            bom.addLine(0, 6, 2, 1, 1, 999);
            t.due(3, "with a line behind the phantom", bom, b -> b.listSize(0, 1));
            t.due(2, "of the phantom", bom, b -> b.listSize(1, 1));
        });
        EdgeSentences.partAndSerial(s, (b, part, serial) -> b.listSize(part, serial), 1, 0, 2, 2, 0, 1);
        s.test("Returns the number of entries.", t -> {
            BillOfMaterials bom = longest();
            t.due(1296, "the longest list", bom, b -> b.listSize(0, 1));
            t.due(216, "over three levels", bom, b -> b.listSize(1, 999));
            t.due(36, "over two levels", bom, b -> b.listSize(2, 1));
            t.due(6, "over one level", bom, b -> b.listSize(3, 1));
            t.due(0, "over none", bom, b -> b.listSize(15, 1));
        });
    }

    private static void listPart(Sentences s) {
        s.section("Promise 19: listPart");
        s.test("Returns the part of an entry of the direct list of a part.", t -> {
            BillOfMaterials bom = Fixtures.parts("mpbb");
            bom.addLine(0, 6, 3, 1, 1, 999);
            bom.addLine(0, 1, 2, 1, 1, 999);
            bom.addLine(0, 3, 1, 2, 1, 999);
            bom.addLine(1, 1, 3, 3, 1, 999);
            int[] want = {2, 3, 3};
            for (int i = 0; i < 3; i++) {
                int index = i;
                t.due(want[i], "listPart of " + i, bom, b -> b.listPart(0, 1, index));
            }
        });
        EdgeSentences.partAndSerial(s, (b, part, serial) -> b.listPart(part, serial, 0), 7, ELEMENT, 8, 7, ELEMENT, 9);
        s.test("`index`: the index of the entry, counted from 0", t -> {
            BillOfMaterials bom = longest();
            for (int index : new int[] {0, 1, 5, 6, 15, 16, 17, 31, 32, 63, 64, 127, 128, 255, 256, 511, 512, 1023,
                1024, 1294, 1295}) {
                t.due(10 + index % 6, "the entry " + index, bom, b -> b.listPart(0, 1, index));
            }
            t.due(ELEMENT, "the entry 1296", bom, b -> b.listPart(0, 1, 1296));
        });
        s.test("Returns the part of the entry.", t -> {
            BillOfMaterials bom = Fixtures.made(16);
            bom.addLine(7, 1, 15, 20, 1, 999);
            bom.addLine(7, 6, 0, 1, 1, 999);
            t.due(15, "the last part", bom, b -> b.listPart(7, 1, 0));
            t.due(0, "the first part", bom, b -> b.listPart(7, 1, 1));
        });
        noSuchEntry(s, BillOfMaterials::listPart);
    }

    private static void listQuantity(Sentences s) {
        s.section("Promise 20: listQuantity");
        s.test("Returns the quantity of an entry of the direct list of a part.", t -> {
            BillOfMaterials bom = Fixtures.parts("mpbb");
            bom.addLine(0, 6, 3, 4, 1, 999);
            bom.addLine(0, 1, 2, 5, 1, 999);
            bom.addLine(0, 3, 1, 6, 1, 999);
            bom.addLine(1, 1, 3, 7, 1, 999);
            long[] want = {5, 42, 4};
            for (int i = 0; i < 3; i++) {
                int index = i;
                t.due(want[i], "listQuantity of " + i, bom, b -> b.listQuantity(0, 1, index));
            }
        });
        EdgeSentences.partAndSerial(s, (b, part, serial) -> b.listQuantity(part, serial, 0),
                2L, ELEMENT, 3L, 7L, ELEMENT, 13L);
        s.test("`index`: the index of the entry, counted from 0", t -> {
            BillOfMaterials bom = Fixtures.parts("ppb");
            for (int position = 1; position <= 6; position++) {
                bom.addLine(0, position, 1, position, 1, 999);
                bom.addLine(1, position, 2, 14 + position, 1, 999);
            }
            for (int i = 0; i < 36; i++) {
                int index = i;
                t.due((i / 6 + 1L) * (15 + i % 6), "the entry " + i, bom, b -> b.listQuantity(0, 1, index));
            }
            t.due(ELEMENT, "the entry 36", bom, b -> b.listQuantity(0, 1, 36));
        });
        s.test("Returns the quantity of the entry.", t -> {
            BillOfMaterials bom = longest();
            t.due(160000L, "the greatest quantity, first", bom, b -> b.listQuantity(0, 1, 0));
            t.due(160000L, "the greatest quantity, last", bom, b -> b.listQuantity(0, 1, 1295));
            t.due(20L, "the quantity of a line", bom, b -> b.listQuantity(3, 1, 5));
            BillOfMaterials least = Fixtures.chain(1);
            least.addLine(0, 2, 1, 1, 1, 999);
            t.due(1L, "the least quantity", least, b -> b.listQuantity(0, 1, 1));
        });
        noSuchEntry(s, BillOfMaterials::listQuantity);
    }

    /** The list of the part 0 of Fixtures.rich for 500 has 3 entries: 14x2,10x4,3x2. */
    private static void noSuchEntry(Sentences s, Entry entry) {
        s.test("Throws `IndexOutOfBoundsException` if there is no such part", t -> {
            Refusals.noSuchPart(t, "with no such entry", (b, part) -> entry.of(b, part, 1, -1));
            Refusals.noSuchPart(t, "with all wrong", (b, part) -> entry.of(b, part, 0, 1296));
        });
        s.test("Throws `IllegalArgumentException` if the serial number is out of range", t -> {
            Refusals.serialOutOfRange(t, "with no such entry", (b, serial) -> entry.of(b, 0, serial, -1));
            Refusals.serialOutOfRange(t, "with no entry at all", (b, serial) -> entry.of(b, 3, serial, 0));
        });
        s.test("Throws `NoSuchElementException` if there is no such entry", t -> {
            BillOfMaterials bom = Fixtures.rich();
            t.due("14x2,10x4,3x2", "the list", bom, b -> Fixtures.written(b, 0, 500));
            t.due(true, "the last entry", bom, b -> entry.of(b, 0, 500, 2) instanceof Number);
            t.refused(ELEMENT, "the entry 3", Fixtures::rich, b -> entry.of(b, 0, 500, 3));
            for (int index : NO_ENTRIES) {
                t.refused(ELEMENT, "the entry " + index, Fixtures::rich, b -> entry.of(b, 0, 500, index));
                t.refused(ELEMENT, "the entry " + index + " of an empty list", Fixtures::rich,
                        b -> entry.of(b, 3, 500, index));
            }
            t.refused(ELEMENT, "the first entry of an empty list", Fixtures::rich, b -> entry.of(b, 3, 500, 0));
            t.refused(ELEMENT, "the first entry of an empty list", Fixtures::full, b -> entry.of(b, 15, 1, 0));
            BillOfMaterials after = longest();
            after.listSize(0, 1);
            t.due(ELEMENT, "the entry 6 behind a longer list", after, b -> entry.of(b, 3, 1, 6));
        });
    }

    private static void writeList(Sentences s) {
        s.section("Promise 21: writeList");
        s.test("Writes the direct list of a part to the output line, which replaces its old content: for each entry "
                + "its quantity, \"x\" and its part, separated by \",\"; for example \"2x3,12x0\".", t -> {
            BillOfMaterials bom = Fixtures.made(6);
            bom.addLine(5, 2, 3, 2, 1, 999);
            bom.addLine(5, 4, 0, 12, 1, 999);
            t.due("2x3,12x0", "the document's example", bom, b -> Fixtures.written(b, 5, 1));
            bom.addLine(4, 1, 0, 1, 1, 999);
            t.due("1x0", "a shorter line", bom, b -> Fixtures.written(b, 4, 1));
            t.due(INDEX, "the character behind it", bom, b -> b.charAt(3));
            t.due("2x3,12x0", "the longer line again", bom, b -> Fixtures.written(b, 5, 1));
            t.due("", "an empty list", bom, b -> Fixtures.written(b, 0, 1));
            linesOfAllLengths(t);
            quantitiesOfAllLengths(t);
            t.due(INDEX, "the first character of an empty line", bom, b -> b.charAt(0));
            String want = longestText();
            for (int from = 0; from < want.length(); from += 400) {
                BillOfMaterials longest = longest();
                t.due(want.length(), "the longest list", longest, b -> b.writeList(0, 1));
                for (int i = from; i < Math.min(from + 400, want.length()); i++) {
                    int index = i;
                    t.due(want.charAt(i), "charAt(" + i + ") of the longest line", longest, b -> b.charAt(index));
                }
            }
        });
        EdgeSentences.partAndSerial(s, (b, part, serial) -> b.writeList(part, serial), 3, 0, 7, 8, 0, 4);
        s.test("Returns the number of characters of the line.", t -> {
            BillOfMaterials bom = longest();
            t.due(1296 * 10 - 1, "the longest line", bom, b -> b.writeList(0, 1));
            t.due(0, "an empty line", bom, b -> b.writeList(15, 1));
            t.due(6 * 5 + 5, "a line of six entries", bom, b -> b.writeList(3, 1));
            BillOfMaterials digits = Fixtures.made(11);
            digits.addLine(5, 1, 9, 9, 1, 499);
            digits.addLine(5, 1, 10, 10, 500, 999);
            t.due(3, "numbers of one digit", digits, b -> b.writeList(5, 499));
            t.due(5, "numbers of two digits", digits, b -> b.writeList(5, 500));
        });
        s.test("Throws `IndexOutOfBoundsException` if there is no such part", t -> {
            BillOfMaterials bom = Fixtures.rich();
            String before = Fixtures.written(bom, 0, 500);
            t.due(INDEX, "writeList(6, 500)", bom, b -> b.writeList(6, 500));
            for (int i = 0; i < before.length(); i++) {
                int index = i;
                t.due(before.charAt(i), "charAt(" + i + ") of the old line", bom, b -> b.charAt(index));
            }
        });
        s.test("Throws `IllegalArgumentException` if the serial number is out of range", t -> {
            BillOfMaterials bom = Fixtures.rich();
            String before = Fixtures.written(bom, 0, 500);
            t.due(ARGUMENT, "writeList(3, 0)", bom, b -> b.writeList(3, 0));
            t.due(ARGUMENT, "writeList(0, 1000)", bom, b -> b.writeList(0, 1000));
            for (int i = 0; i < before.length(); i++) {
                int index = i;
                t.due(before.charAt(i), "charAt(" + i + ") of the old line", bom, b -> b.charAt(index));
            }
        });
    }

    /** A first entry of 3 to 6 characters and 30 more of 3: a row that grows is full at every place of an entry. */
    private static void linesOfAllLengths(Sentences t) {
        for (int[] first : new int[][] {{1, 1, 9}, {10, 1, 9}, {10, 1, 10}, {10, 10, 10}}) {
            BillOfMaterials bom = Fixtures.parts("mppbbbbbbbbb");
            bom.addLine(0, 1, 1, first[0], 1, 999);
            bom.addLine(1, 1, first[2], first[1], 1, 999);
            for (int position = 2; position <= 6; position++) {
                bom.addLine(0, position, 2, 1, 1, 999);
            }
            for (int position = 1; position <= 6; position++) {
                bom.addLine(2, position, 9, 1, 1, 999);
            }
            String want = first[0] * first[1] + "x" + first[2] + ",1x9".repeat(30);
            t.due(want, "a line of " + want.length() + " characters", bom, b -> Fixtures.written(b, 0, 1));
        }
    }

    /** Quantities of one digit to six, the least and the greatest of each that four lines can give among them. */
    private static void quantitiesOfAllLengths(Sentences t) {
        int[][] factors = {{1, 1, 1, 1}, {9, 1, 1, 1}, {10, 1, 1, 1}, {20, 1, 1, 1}, {9, 10, 1, 1}, {9, 11, 1, 1},
            {10, 10, 1, 1}, {19, 20, 1, 1}, {9, 10, 11, 1}, {10, 10, 10, 1}, {20, 20, 20, 1}, {9, 10, 11, 10},
            {10, 10, 10, 10}, {15, 15, 20, 20}, {16, 16, 20, 20}, {20, 20, 20, 20}};
        for (int[] row : factors) {
            BillOfMaterials bom = Fixtures.parts("mpppm");
            for (int part = 0; part < 4; part++) {
                bom.addLine(part, 1, part + 1, row[part], 1, 999);
            }
            int product = row[0] * row[1] * row[2] * row[3];
            t.due(product + "x4", "a quantity of " + product, bom, b -> Fixtures.written(b, 0, 1));
            t.due((long) product, "listQuantity of " + product, bom, b -> b.listQuantity(0, 1, 0));
        }
    }

    private static void charAt(Sentences s) {
        s.section("Promise 22: charAt");
        s.test("Returns a character of the output line, which is initially empty.", t -> {
            BillOfMaterials bom = Fixtures.chain(1);
            t.due(INDEX, "charAt(0) before the first line", bom, b -> b.charAt(0));
            bom.listSize(0, 1);
            t.due(INDEX, "charAt(0) after listSize", bom, b -> b.charAt(0));
            bom.writeList(0, 1);
            t.due('2', "charAt(0)", bom, b -> b.charAt(0));
            t.due('x', "charAt(1)", bom, b -> b.charAt(1));
            t.due('1', "charAt(2)", bom, b -> b.charAt(2));
            bom.setKind(1, 'p');
            bom.endBefore(0, 2);
            t.due('1', "charAt(2) when the list has changed", bom, b -> b.charAt(2));
        });
        s.test("`index`: the index, counted from 0", t -> {
            BillOfMaterials bom = longest();
            bom.writeList(0, 1);
            t.due('1', "the first character", bom, b -> b.charAt(0));
            t.due('5', "the last character", bom, b -> b.charAt(12958));
            for (int index : new int[] {63, 64, 127, 128, 255, 256, 1023, 1024, 4095, 4096, 8191, 8192, 12957}) {
                t.due(longestText().charAt(index), "the character " + index, bom, b -> b.charAt(index));
            }
        });
        s.test("Returns the character.", t -> {
            BillOfMaterials bom = Fixtures.made(16);
            bom.addLine(15, 1, 14, 20, 1, 999);
            bom.addLine(15, 2, 13, 19, 1, 999);
            bom.writeList(15, 1);
            String want = "20x14,19x13";
            for (int i = 0; i < want.length(); i++) {
                int index = i;
                t.due(want.charAt(i), "charAt(" + i + ")", bom, b -> b.charAt(index));
            }
        });
        s.test("Throws `IndexOutOfBoundsException` if the index is negative or not less than the number of characters",
                t -> {
            int length = Fixtures.rich().writeList(0, 500);
            BillOfMaterials bom = Fixtures.rich();
            t.due(true, "the last character", bom, b -> b.charAt(length - 1) >= '0');
            for (int index : new int[] {-1, -2, length, length + 1, 63, 64, 65, 65536, Integer.MIN_VALUE,
                Integer.MAX_VALUE}) {
                t.refused(INDEX, "charAt(" + index + ")", Fixtures::rich, b -> b.charAt(index));
                t.due(INDEX, "charAt(" + index + ") of an empty line", Fixtures.made(2), b -> b.charAt(index));
            }
            for (int index : new int[] {-1, 0, 1, 15, 31}) {
                t.refused(INDEX, "charAt(" + index + ") of a new object", BillOfMaterials::new, b -> b.charAt(index));
                t.refused(INDEX, "charAt(" + index + ") of an empty list", Fixtures::full, b -> b.charAt(index));
            }
            BillOfMaterials shorter = longest();
            shorter.writeList(0, 1);
            t.due(INDEX, "behind the longest line", shorter, b -> b.charAt(12959));
            shorter.writeList(3, 1);
            t.due(INDEX, "behind a shorter line", shorter, b -> b.charAt(35));
            t.due('5', "the last of a shorter line", shorter, b -> b.charAt(34));
        });
    }

    // ---- promises 23 to 26

    private static void quantity(Sentences s, String description, Quantity quantity) {
        s.test(description, t -> {
            BillOfMaterials bom = Fixtures.chain(4);
            bom.addLine(0, 6, 4, 20, 1, 999);
            bom.addLine(0, 5, 2, 7, 500, 999);
            bom.addLine(2, 2, 4, 11, 1, 1);
            t.due(120L + 20, "over four levels and over one", bom, b -> quantity.of(b, 0, 4, 499));
            t.due(120L + 20 + 2 * 3 * 11, "for 1", bom, b -> quantity.of(b, 0, 4, 1));
            t.due(120L + 20 + 7 * 4 * 5, "for 500", bom, b -> quantity.of(b, 0, 4, 500));
            t.due(2L * 3 + 7, "of a part in the middle", bom, b -> quantity.of(b, 0, 2, 999));
            t.due(5L, "in a part in the middle", bom, b -> quantity.of(b, 3, 4, 999));
        });
        EdgeSentences.Call ofSomeChild = (b, part, serial) -> quantity.of(b, part, someChild(b, serial), serial);
        s.test("`part`: the part",
                t -> EdgeSentences.partArgument(t, "part", ofSomeChild, 2L, 0L, 5L, 7L, 0L, 13L));
        s.test("`component`: the component", t -> EdgeSentences.partArgument(t, "component",
                (b, component, serial) -> quantity.of(b, 14, component, serial), 0L, 0L, 19L, 17L, 0L, 0L));
        EdgeSentences.serial(s, ofSomeChild, 2L, 0L, 5L, 7L, 0L, 13L);
        s.test("Returns the quantity, 0 if the part does not contain the component.", t -> {
            BillOfMaterials bom = Fixtures.chain(2);
            bom.addPart('b', 0, 0);
            bom.addVariant(0, 2, 3, 20, 0, 8);
            t.due(1L, "a part without lines in itself", bom, b -> quantity.of(b, 3, 3, 1));
            t.due(1L, "a part with lines in itself", bom, b -> quantity.of(b, 0, 0, 1));
            t.due(0L, "a part beside", bom, b -> quantity.of(b, 1, 3, 1));
            t.due(0L, "a part above", bom, b -> quantity.of(b, 2, 0, 1));
            t.due(0L, "a part of a variant that doesn't hold", bom, b -> quantity.of(b, 0, 3, 1));
            bom.setChoice(0, 3);
            t.due(20L, "a part of a variant that holds", bom, b -> quantity.of(b, 0, 3, 1));
            bom.endBefore(0, 999);
            t.due(6L, "a part below, for the last number of the line", bom, b -> quantity.of(b, 0, 2, 998));
            t.due(0L, "a part below a line that has ended", bom, b -> quantity.of(b, 0, 2, 999));
            BillOfMaterials broad = TermsSentences.broadest();
            t.due(207360000L, "the greatest quantity", broad, b -> quantity.of(b, 0, 4, 1));
            BillOfMaterials one = Fixtures.made(1);
            t.due(1L, "the only part in itself", one, b -> quantity.of(b, 0, 0, 999));
        });
        s.test("Throws `IndexOutOfBoundsException` if the part or the component does not exist", t -> {
            EdgeSentences.missing(t, "the part", (b, part, serial) -> quantity.of(b, part, 0, serial));
            EdgeSentences.missing(t, "the component", (b, part, serial) -> quantity.of(b, 0, part, serial));
            EdgeSentences.missing(t, "both", (b, part, serial) -> quantity.of(b, part, part, serial));
        });
        s.test("Throws `IllegalArgumentException` if the serial number is out of range", t -> {
            Refusals.serialOutOfRange(t, "a part in itself", (b, serial) -> quantity.of(b, 0, 0, serial));
            Refusals.serialOutOfRange(t, "a part beside", (b, serial) -> quantity.of(b, 3, 5, serial));
            EdgeSentences.serialRefused(t, ofSomeChild);
        });
    }

    /** A child that the first and the last part of Fixtures.edges have for this number; a part of a smaller object. */
    private static int someChild(BillOfMaterials bom, int serial) {
        return bom.parts() < 16 ? 0 : serial == 1 ? 7 : 9;
    }

    private static void whereUsed(Sentences s) {
        s.section("Promise 25: whereUsed");
        s.test("Returns how many other parts have a quantity of a component that is greater than 0.", t -> {
            BillOfMaterials bom = Fixtures.chain(4);
            bom.addLine(0, 2, 4, 1, 1, 999);
            for (int part = 0; part < 5; part++) {
                int asked = part;
                t.due(part, "whereUsed(" + part + ")", bom, b -> b.whereUsed(asked, 1));
            }
            bom.endBefore(2, 500);
            t.due(2, "whereUsed(4) without the line 2", bom, b -> b.whereUsed(4, 500));
            t.due(4, "whereUsed(4) just before", bom, b -> b.whereUsed(4, 499));
        });
        s.test("`component`: the component", t -> EdgeSentences.partArgument(t, "component",
                (b, part, serial) -> b.whereUsed(part, serial), 0, 0, 1, 1, 0, 0));
        EdgeSentences.serial(s, (b, part, serial) -> b.whereUsed(part, serial), 0, 0, 1, 1, 0, 0);
        s.test("Throws `IllegalArgumentException` if the serial number is out of range",
                t -> EdgeSentences.serialRefused(t, (b, part, serial) -> b.whereUsed(part, serial)));
        s.test("Returns the number of parts.", t -> {
            BillOfMaterials bom = Fixtures.made(16);
            t.due(0, "without lines", bom, b -> b.whereUsed(15, 1));
            for (int part = 0; part < 15; part++) {
                int asked = part;
                bom.addLine(part, 6, 15, 1, 1, 999);
                t.due(part + 1, "with " + (part + 1) + " lines", bom, b -> b.whereUsed(15, 1));
                t.due(0, "of a part that nothing contains", bom, b -> b.whereUsed(asked, 1));
            }
            bom.addLine(0, 1, 15, 20, 1, 999);
            t.due(15, "with a second line of a part", bom, b -> b.whereUsed(15, 999));
            BillOfMaterials one = Fixtures.made(1);
            t.due(0, "of the only part", one, b -> b.whereUsed(0, 1));
        });
        s.test("Throws `IndexOutOfBoundsException` if the component does not exist",
                t -> EdgeSentences.missing(t, "the component", (b, part, serial) -> b.whereUsed(part, serial)));
    }

    private static void levels(Sentences s) {
        s.section("Promise 26: levels");
        s.test("Returns the number of lines of the longest chain of lines that begins with a part.", t -> {
            BillOfMaterials bom = Fixtures.chain(4);
            bom.addLine(0, 2, 4, 1, 1, 999);
            for (int part = 0; part < 5; part++) {
                int asked = part;
                t.due(4 - part, "levels(" + part + ")", bom, b -> b.levels(asked, 1));
            }
            bom.endBefore(3, 500);
            t.due(3, "levels(0) when the last line has ended", bom, b -> b.levels(0, 500));
            t.due(4, "levels(0) just before", bom, b -> b.levels(0, 499));
            bom.endBefore(1, 500);
            t.due(1, "levels(0) when the second line has ended", bom, b -> b.levels(0, 500));
            t.due(1, "levels(2) below it", bom, b -> b.levels(2, 500));
        });
        EdgeSentences.partAndSerial(s, (b, part, serial) -> b.levels(part, serial), 1, 0, 2, 1, 0, 2);
        s.test("Returns the number of lines, 0 if there is no such line.", t -> {
            BillOfMaterials bom = Fixtures.made(5);
            t.due(0, "without lines", bom, b -> b.levels(0, 1));
            bom.addVariant(0, 1, 1, 1, 0, 2);
            t.due(0, "with a variant that doesn't hold", bom, b -> b.levels(0, 1));
            bom.addLine(1, 1, 2, 1, 999, 999);
            t.due(1, "below it for 999", bom, b -> b.levels(1, 999));
            t.due(0, "below it for 998", bom, b -> b.levels(1, 998));
            bom.setChoice(0, 1);
            t.due(1, "with a variant that holds", bom, b -> b.levels(0, 998));
            t.due(2, "with both lines", bom, b -> b.levels(0, 999));
            bom.addLine(2, 1, 3, 1, 1, 999);
            bom.addLine(3, 6, 4, 1, 1, 999);
            t.due(4, "with the longest chain", bom, b -> b.levels(0, 999));
            t.due(1, "with the longest chain cut in its middle", bom, b -> b.levels(0, 998));
        });
    }
}
