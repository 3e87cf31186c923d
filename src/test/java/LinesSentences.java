import java.util.function.Supplier;

/** The sentences of the promises 8 to 17, each with its boundary cases. */
final class LinesSentences {
    private static final Class<?> INDEX = Sentences.INDEX;
    private static final Class<?> ARGUMENT = Sentences.ARGUMENT;
    private static final Class<?> CIRCLE = Sentences.CIRCLE;
    private static final Class<?> STATE = Sentences.STATE;

    /** A line with the condition or the range that the promise in question asks for, both fine. */
    private interface Adding {
        int add(BillOfMaterials bom, int parent, int position, int child, int quantity);
    }

    private LinesSentences() {
    }

    static void all(Sentences s) {
        addLine(s);
        addVariant(s);
        replaceFrom(s);
        replaceFromRefusals(s);
        endBefore(s);
        setScrap(s);
        lines(s);
        lastSerial(s);
        holds(s);
        setChoice(s);
        choice(s);
    }

    // ---- promises 8 and 9

    private static void addLine(Sentences s) {
        s.section("Promise 8: addLine");
        s.test("Adds a line without a condition, with the scrap rate 0.", t -> {
            BillOfMaterials bom = Fixtures.made(2);
            bom.addLine(0, 3, 1, 4, 5, 9);
            for (int number = 0; number < 16; number++) {
                int option = number / 4;
                int choice = number % 4;
                bom.setChoice(option, choice);
                t.due(true, "holds for the choice " + choice + " of " + option, bom, b -> b.holds(0, 5));
            }
            t.due(5.0f, "cost without scrap", bom, b -> b.cost(0, 5));
            t.due(0, "setScrap", bom, b -> b.setScrap(0, 50));
            bom.addLine(0, 4, 1, 4, 5, 9);
            t.due(0, "setScrap of the next line", bom, b -> b.setScrap(1, 50));
        });
        Adding adding = (b, parent, position, child, quantity) -> b.addLine(parent, position, child, quantity, 1, 999);
        parentPositionChildQuantity(s, adding);
        s.test("`first`: the first serial number, 1 to 999", t -> {
            for (int first : new int[] {1, 2, 500, 998, 999}) {
                BillOfMaterials bom = Fixtures.made(2);
                t.due(0, "addLine from " + first, bom, b -> b.addLine(0, 1, 1, 1, first, 999));
                t.due(first == 1 ? ARGUMENT : (Object) false, "holds before", bom, b -> b.holds(0, first - 1));
                t.due(true, "holds for " + first, bom, b -> b.holds(0, first));
                t.due(999, "lastSerial(0)", bom, b -> b.lastSerial(0));
            }
        });
        s.test("`last`: the last serial number, from the first one to 999", t -> {
            for (int[] range : new int[][] {{1, 1}, {1, 2}, {500, 500}, {500, 501}, {998, 998}, {1, 999}, {999, 999}}) {
                BillOfMaterials bom = Fixtures.made(2);
                int last = range[1];
                t.due(0, "addLine to " + last, bom, b -> b.addLine(0, 1, 1, 1, range[0], last));
                t.due(last, "lastSerial(0)", bom, b -> b.lastSerial(0));
                t.due(true, "holds for " + last, bom, b -> b.holds(0, last));
                t.due(last == 999 ? ARGUMENT : (Object) false, "holds behind", bom, b -> b.holds(0, last + 1));
            }
        });
        numberOfTheLine(s, adding);
        missingParts(s, adding);
        s.test("Throws `IndexOutOfBoundsException` if the parent or the child does not exist", t -> {
            Refusals.noSuchPart(t, "the parent and the first number", (b, part) -> b.addLine(part, 1, 3, 1, 0, 999));
            Refusals.noSuchPart(t, "the child and the last number", (b, part) -> b.addLine(0, 1, part, 1, 1, 1000));
            Refusals.noSuchPart(t, "the child and the range", (b, part) -> b.addLine(0, 1, part, 1, 2, 1));
        });
        s.test("Throws `IllegalArgumentException` if another number is out of range", t -> {
            wrongPlaceOrQuantity(t, adding);
            Refusals.outsideOf(t, ARGUMENT, "first", 1, 999, (b, first) -> b.addLine(0, 1, 3, 1, first, 999));
            Refusals.outsideOf(t, ARGUMENT, "first and last", 1, 999, (b, both) -> b.addLine(0, 1, 3, 1, both, both));
            Refusals.outsideOf(t, ARGUMENT, "last", 1, 999, (b, last) -> b.addLine(0, 1, 3, 1, 1, last));
            Refusals.outsideOf(t, ARGUMENT, "last behind 999", 1, 999, (b, last) -> b.addLine(0, 1, 3, 1, 999, last));
            for (int[] range : new int[][] {{2, 1}, {500, 499}, {999, 998}, {999, 1}, {1, 0}, {0, 0}, {1000, 1000}}) {
                Sentences.Call plain = b -> b.addLine(0, 1, 3, 1, range[0], range[1]);
                String what = range[0] + " to " + range[1];
                t.refused(ARGUMENT, what, Fixtures::rich, plain);
                t.refused(ARGUMENT, what + " when full", Fixtures::full, plain);
                t.refused(ARGUMENT, what + " in a circle", Fixtures::rich,
                        b -> b.addLine(3, 1, 0, 1, range[0], range[1]));
                t.refused(ARGUMENT, what + " too deep", Fixtures::deep,
                        b -> b.addLine(4, 1, 5, 1, range[0], range[1]));
                t.refused(ARGUMENT, what + " at a taken place", Fixtures::rich,
                        b -> b.addLine(0, 2, 3, 1, range[0], range[1]));
            }
        });
        circles(s, adding);
        s.test("Throws `IllegalStateException` if it would be too deep, would collide with another line, or there are "
                + "40 lines", t -> {
            depthAndRoom(t, adding);
            t.refused(STATE, "up to the first number of a line", Fixtures::rich, b -> b.addLine(0, 2, 3, 1, 1, 10));
            t.refused(STATE, "from the last number of a line", Fixtures::rich, b -> b.addLine(0, 2, 3, 1, 990, 999));
            t.refused(STATE, "around a line", Fixtures::rich, b -> b.addLine(0, 2, 3, 1, 1, 999));
            t.refused(STATE, "inside a line", Fixtures::rich, b -> b.addLine(0, 2, 3, 1, 500, 500));
            t.refused(STATE, "over a variant", Fixtures::rich, b -> b.addLine(0, 4, 3, 1, 999, 999));
            BillOfMaterials bom = Fixtures.rich();
            t.due(6, "just before a line", bom, b -> b.addLine(0, 2, 3, 1, 1, 9));
            t.due(7, "just behind a line", bom, b -> b.addLine(0, 2, 3, 1, 991, 999));
        });
    }

    private static void addVariant(Sentences s) {
        s.section("Promise 9: addVariant");
        s.test("Adds a line with a condition, for the serial numbers from 1 to 999, with the scrap rate 0.", t -> {
            BillOfMaterials bom = Fixtures.made(2);
            bom.addVariant(0, 3, 1, 4, 2, 5);
            t.due(999, "lastSerial(0)", bom, b -> b.lastSerial(0));
            t.due(ARGUMENT, "endBefore its first number", bom, b -> b.endBefore(0, 1));
            t.due(ARGUMENT, "endBefore behind its last number", bom, b -> b.endBefore(0, 1000));
            t.due(ARGUMENT, "replaceFrom its first number", bom, b -> b.replaceFrom(0, 1, 1, 1));
            t.due(ARGUMENT, "replaceFrom behind its last number", bom, b -> b.replaceFrom(0, 1000, 1, 1));
            boolean[] want = {true, false, true, false};
            for (int choice = 0; choice < 4; choice++) {
                bom.setChoice(2, choice);
                t.due(want[choice], "holds(0, 1) for the choice " + choice, bom, b -> b.holds(0, 1));
                t.due(want[choice], "holds(0, 999) for the choice " + choice, bom, b -> b.holds(0, 999));
            }
            bom.setChoice(2, 0);
            t.due(5.0f, "cost without scrap", bom, b -> b.cost(0, 5));
            t.due(0, "setScrap", bom, b -> b.setScrap(0, 50));
            bom.addVariant(0, 4, 1, 4, 2, 5);
            t.due(0, "setScrap of the next variant", bom, b -> b.setScrap(1, 50));
            t.due(999, "endBefore its second number", bom, b -> b.endBefore(0, 2));
            t.due(2, "replaceFrom its last number", bom, b -> b.replaceFrom(1, 999, 1, 1));
        });
        Adding adding = (b, parent, position, child, quantity) -> b.addVariant(parent, position, child, quantity, 0, 3);
        parentPositionChildQuantity(s, adding);
        s.test("`option`: the option of the condition, 0 to 3", t -> {
            for (int option = 0; option < 4; option++) {
                BillOfMaterials bom = Fixtures.made(2);
                int asked = option;
                t.due(0, "addVariant by " + option, bom, b -> b.addVariant(0, 1, 1, 1, asked, 14));
                for (int other = 0; other < 4; other++) {
                    bom.setChoice(other, 3);
                    t.due(other == option, "holds for a choice of " + other, bom, b -> b.holds(0, 1));
                    bom.setChoice(other, 0);
                }
            }
        });
        s.test("`choices`: the set of choices of the condition, 1 to 15", t -> {
            for (int choices = 1; choices <= 15; choices++) {
                BillOfMaterials bom = Fixtures.made(2);
                int set = choices;
                t.due(0, "addVariant with " + set, bom, b -> b.addVariant(0, 1, 1, 1, 3, set));
                for (int choice = 0; choice < 4; choice++) {
                    bom.setChoice(3, choice);
                    t.due((set >> choice) % 2 == 1, "holds for " + choice, bom, b -> b.holds(0, 999));
                }
            }
        });
        numberOfTheLine(s, adding);
        missingParts(s, adding);
        s.test("Throws `IndexOutOfBoundsException` if the parent or the child does not exist", t -> {
            Refusals.noSuchPart(t, "the parent and the option", (b, part) -> b.addVariant(part, 1, 3, 1, 4, 1));
            Refusals.noSuchPart(t, "the child and the choices", (b, part) -> b.addVariant(0, 1, part, 1, 0, 0));
        });
        s.test("Throws `IllegalArgumentException` if another number is out of range", t -> {
            wrongPlaceOrQuantity(t, adding);
            Refusals.outsideOf(t, ARGUMENT, "option", 0, 3, (b, option) -> b.addVariant(0, 1, 3, 1, option, 1));
            Refusals.outsideOf(t, ARGUMENT, "choices", 1, 15, (b, set) -> b.addVariant(0, 1, 3, 1, 0, set));
            Refusals.outsideOf(t, ARGUMENT, "choices of 3", 1, 15, (b, set) -> b.addVariant(0, 1, 3, 1, 3, set));
            for (int[] condition : new int[][] {{-1, 1}, {4, 1}, {0, 0}, {0, 16}, {4, 16}}) {
                String what = "the condition " + condition[0] + ":" + condition[1];
                t.refused(ARGUMENT, what + " in a circle", Fixtures::rich,
                        b -> b.addVariant(3, 1, 0, 1, condition[0], condition[1]));
                t.refused(ARGUMENT, what + " too deep", Fixtures::deep,
                        b -> b.addVariant(4, 1, 5, 1, condition[0], condition[1]));
                t.refused(ARGUMENT, what + " at a taken place", Fixtures::rich,
                        b -> b.addVariant(0, 2, 3, 1, condition[0], condition[1]));
                t.refused(ARGUMENT, what + " when full", Fixtures::full,
                        b -> b.addVariant(14, 1, 15, 1, condition[0], condition[1]));
            }
        });
        circles(s, adding);
        s.test("Throws `IllegalStateException` if it would be too deep, would collide with another line, or there are "
                + "40 lines", t -> {
            depthAndRoom(t, adding);
            t.refused(STATE, "over a line", Fixtures::rich, b -> b.addVariant(0, 2, 3, 1, 0, 8));
            for (int only : new int[] {1, 999}) {
                t.refused(STATE, "over a line that holds for " + only + " only", () -> {
                    BillOfMaterials bom = Fixtures.made(3);
                    bom.addLine(0, 1, 1, 1, only, only);
                    return bom;
                }, b -> b.addVariant(0, 1, 2, 1, 0, 8));
            }
            t.refused(STATE, "over a variant of another option", Fixtures::rich, b -> b.addVariant(0, 4, 3, 1, 2, 8));
            t.refused(STATE, "with a common choice", Fixtures::rich, b -> b.addVariant(0, 4, 3, 1, 1, 10));
            t.refused(STATE, "with all choices", Fixtures::rich, b -> b.addVariant(0, 4, 3, 1, 1, 15));
            BillOfMaterials bom = Fixtures.rich();
            t.due(6, "with one of the choices that are left", bom, b -> b.addVariant(0, 4, 3, 1, 1, 8));
            t.due(7, "with the other one", bom, b -> b.addVariant(0, 4, 3, 1, 1, 1));
        });
    }

    private static void parentPositionChildQuantity(Sentences s, Adding adding) {
        s.test("`parent`: the parent", t -> {
            for (int parent : new int[] {0, 15}) {
                BillOfMaterials bom = Fixtures.made(16);
                t.due(0, "a line of " + parent, bom, b -> adding.add(b, parent, 1, 7, 3));
                t.due(3L, "quantity", bom, b -> b.quantity(parent, 7, 1));
                t.due(1, "listSize", bom, b -> b.listSize(parent, 1));
                t.due(0, "listSize of the other one", bom, b -> b.listSize(15 - parent, 1));
            }
        });
        s.test("`position`: the position, 1 to 6", t -> {
            BillOfMaterials bom = Fixtures.made(2);
            for (int position = 6; position >= 1; position--) {
                int asked = position;
                t.due(6 - position, "a line at " + position, bom, b -> adding.add(b, 0, asked, 1, asked));
                t.due(STATE, "another line there", bom, b -> adding.add(b, 0, asked, 1, asked));
            }
            t.due("1x1,2x1,3x1,4x1,5x1,6x1", "the list", bom, b -> Fixtures.written(b, 0, 1));
        });
        s.test("`child`: the child", t -> {
            for (int child : new int[] {0, 15}) {
                BillOfMaterials bom = Fixtures.made(16);
                t.due(0, "a line to " + child, bom, b -> adding.add(b, 7, 1, child, 3));
                t.due(child, "listPart", bom, b -> b.listPart(7, 1, 0));
                t.due(1, "whereUsed", bom, b -> b.whereUsed(child, 1));
                t.due(0, "whereUsed of the other one", bom, b -> b.whereUsed(15 - child, 1));
            }
        });
        s.test("`quantity`: the quantity, 1 to 20", t -> {
            for (int quantity = 1; quantity <= 20; quantity++) {
                BillOfMaterials bom = Fixtures.made(2);
                int asked = quantity;
                t.due(0, "a line of " + quantity, bom, b -> adding.add(b, 0, 1, 1, asked));
                t.due((long) quantity, "quantity", bom, b -> b.quantity(0, 1, 1));
            }
        });
    }

    private static void numberOfTheLine(Sentences s, Adding adding) {
        s.test("Returns the number of the line.", t -> {
            BillOfMaterials bom = Fixtures.made(16);
            for (int line = 0; line < 40; line++) {
                int parent = line / 6;
                int position = line % 6 + 1;
                t.due(line, "the line " + line, bom, b -> adding.add(b, parent, position, 15, 1));
            }
            BillOfMaterials mixed = Fixtures.made(16);
            mixed.addLine(0, 1, 1, 1, 1, 999);
            mixed.addVariant(0, 2, 1, 1, 0, 1);
            mixed.replaceFrom(0, 500, 1, 1);
            mixed.endBefore(0, 2);
            t.due(CIRCLE, "a refused line", mixed, b -> adding.add(b, 0, 3, 0, 1));
            t.due(3, "a line behind three others", mixed, b -> adding.add(b, 0, 3, 1, 1));
        });
    }

    private static void missingParts(Sentences s, Adding adding) {
        s.test("Throws `IndexOutOfBoundsException` if the parent or the child does not exist", t -> {
            Refusals.noSuchPart(t, "the parent", (b, part) -> adding.add(b, part, 1, 3, 1));
            Refusals.noSuchPart(t, "the child", (b, part) -> adding.add(b, 0, 1, part, 1));
            Refusals.noSuchPart(t, "both", (b, part) -> adding.add(b, part, 1, part, 1));
            Refusals.noSuchPart(t, "the parent and the position", (b, part) -> adding.add(b, part, 7, 3, 1));
            Refusals.noSuchPart(t, "the child and the quantity", (b, part) -> adding.add(b, 0, 1, part, 0));
            Refusals.noSuchPart(t, "the child and the position", (b, part) -> adding.add(b, 0, 0, part, 1));
            Refusals.noSuchPart(t, "the child at a taken place", (b, part) -> adding.add(b, 0, 2, part, 1));
            t.refused(INDEX, "the child below the deepest part", Fixtures::deep, b -> adding.add(b, 4, 1, 6, 1));
            t.refused(INDEX, "the parent above the top", Fixtures::deep, b -> adding.add(b, 6, 1, 0, 1));
        });
    }

    private static void wrongPlaceOrQuantity(Sentences t, Adding adding) {
        Refusals.outsideOf(t, ARGUMENT, "position", 1, 6, (b, position) -> adding.add(b, 0, position, 3, 1));
        Refusals.outsideOf(t, ARGUMENT, "quantity", 1, 20, (b, quantity) -> adding.add(b, 0, 1, 3, quantity));
        Refusals.outsideOf(t, ARGUMENT, "position in a circle", 1, 6,
                (b, position) -> adding.add(b, 3, position, 0, 1));
        Refusals.outsideOf(t, ARGUMENT, "quantity in a circle", 1, 20,
                (b, quantity) -> adding.add(b, 0, 1, 0, quantity));
        Refusals.outsideOf(t, ARGUMENT, "quantity at a taken place", 1, 20,
                (b, quantity) -> adding.add(b, 0, 2, 3, quantity));
        t.refused(ARGUMENT, "position too deep", Fixtures::deep, b -> adding.add(b, 4, 0, 5, 1));
        t.refused(ARGUMENT, "quantity too deep", Fixtures::deep, b -> adding.add(b, 5, 1, 0, 21));
        t.refused(ARGUMENT, "position when full", Fixtures::full, b -> adding.add(b, 14, 7, 15, 1));
        t.refused(ARGUMENT, "quantity when full", Fixtures::full, b -> adding.add(b, 14, 1, 15, 0));
    }

    private static void circles(Sentences s, Adding adding) {
        s.test("Throws `UnsupportedOperationException` if the line would be a circle", t -> {
            for (int part : new int[] {0, 3, Fixtures.RICH_PARTS - 1}) {
                t.refused(CIRCLE, part + " in itself", Fixtures::rich, b -> adding.add(b, part, 6, part, 1));
            }
            t.refused(CIRCLE, "15 in itself when full", Fixtures::full, b -> adding.add(b, 15, 6, 15, 1));
            for (int lines = 1; lines <= 4; lines++) {
                int last = lines;
                t.refused(CIRCLE, "back over " + lines + " lines", () -> Fixtures.chain(last),
                        b -> adding.add(b, last, 1, 0, 1));
            }
            t.refused(CIRCLE, "back to the middle of a chain", Fixtures::deep, b -> adding.add(b, 4, 1, 2, 1));
            t.refused(CIRCLE, "at a taken place", Fixtures::rich, b -> adding.add(b, 1, 1, 0, 1));
            t.refused(CIRCLE, "in itself at a taken place", Fixtures::rich, b -> adding.add(b, 0, 2, 0, 1));
            t.refused(CIRCLE, "too deep too", Fixtures::deep, b -> adding.add(b, 3, 2, 0, 1));
            t.refused(CIRCLE, "when full", Fixtures::full, b -> adding.add(b, 3, 1, 0, 1));
            BillOfMaterials bom = Fixtures.chain(3);
            t.due(3, "down over three lines is no circle", bom, b -> adding.add(b, 0, 2, 3, 1));
        });
    }

    private static void depthAndRoom(Sentences t, Adding adding) {
        t.refused(STATE, "a fifth line below", Fixtures::deep, b -> adding.add(b, 4, 1, 5, 1));
        t.refused(STATE, "a fifth line above", Fixtures::deep, b -> adding.add(b, 5, 1, 0, 1));
        BillOfMaterials bom = Fixtures.deep();
        t.due(4, "a fourth line below", bom, b -> adding.add(b, 3, 2, 5, 1));
        BillOfMaterials other = Fixtures.deep();
        t.due(4, "a fourth line above", other, b -> adding.add(b, 5, 1, 1, 1));
        BillOfMaterials almost = Fixtures.lines(39);
        t.due(39, "the 40th line", almost, b -> adding.add(b, 14, 1, 15, 1));
        t.due(STATE, "the 41st line", almost, b -> adding.add(b, 14, 2, 15, 1));
        t.due(40, "lines()", almost, b -> b.lines());
        t.refused(STATE, "a line when full", Fixtures::full, b -> adding.add(b, 14, 1, 15, 1));
        t.refused(STATE, "a line at a taken place when full", Fixtures::full, b -> adding.add(b, 0, 2, 15, 1));
        t.refused(STATE, "a line too deep when full", Fixtures::full, b -> adding.add(b, 6, 5, 0, 1));
    }

    // ---- promise 10

    private static void replaceFrom(Sentences s) {
        s.section("Promise 10: replaceFrom");
        s.test("Replaces a line from a serial number on: the line ends with the serial number before, and a new line "
                + "with the same parent, position, condition, scrap rate and previous last serial number begins with "
                + "the given one.", LinesSentences::replacing);
        s.test("`line`: the line that is replaced", t -> {
            for (int line : new int[] {0, 38}) {
                BillOfMaterials bom = Fixtures.lines(39);
                t.due(39, "replaceFrom", bom, b -> b.replaceFrom(line, 500, 14, 20));
                t.due(499, "lastSerial of the line", bom, b -> b.lastSerial(line));
                t.due(998, "lastSerial of another line", bom, b -> b.lastSerial(38 - line));
                t.due(998, "lastSerial of the new line", bom, b -> b.lastSerial(39));
                t.due(20L, "quantity of the new child", bom, b -> b.quantity(line / 6, 14, 500));
            }
        });
        s.test("`serial`: the first serial number of the new line", t -> {
            for (int[] row : new int[][] {{1, 999, 2}, {1, 999, 999}, {1, 2, 2}, {998, 999, 999}, {10, 20, 11},
                {10, 20, 20}, {10, 20, 15}}) {
                BillOfMaterials bom = Fixtures.made(3);
                bom.addLine(0, 1, 1, 1, row[0], row[1]);
                int serial = row[2];
                t.due(1, "replaceFrom " + serial, bom, b -> b.replaceFrom(0, serial, 2, 1));
                t.due(true, "the line holds before", bom, b -> b.holds(0, serial - 1));
                t.due(false, "the line doesn't hold", bom, b -> b.holds(0, serial));
                t.due(false, "the new line doesn't hold before", bom, b -> b.holds(1, serial - 1));
                t.due(true, "the new line holds", bom, b -> b.holds(1, serial));
                t.due(serial - 1, "lastSerial(0)", bom, b -> b.lastSerial(0));
                t.due(row[1], "lastSerial(1)", bom, b -> b.lastSerial(1));
            }
        });
        s.test("`child`: the child of the new line", t -> {
            for (int child : new int[] {0, 1, 14, 15}) {
                BillOfMaterials bom = Fixtures.made(16);
                bom.addLine(7, 1, 1, 1, 1, 999);
                t.due(1, "replaceFrom by " + child, bom, b -> b.replaceFrom(0, 500, child, 1));
                t.due(1, "listPart before", bom, b -> b.listPart(7, 499, 0));
                t.due(child, "listPart from then on", bom, b -> b.listPart(7, 500, 0));
            }
        });
        s.test("`quantity`: the quantity of the new line, 1 to 20", t -> {
            for (int quantity = 1; quantity <= 20; quantity++) {
                BillOfMaterials bom = Fixtures.made(2);
                bom.addLine(0, 1, 1, 21 - quantity, 1, 999);
                int asked = quantity;
                t.due(1, "replaceFrom with " + quantity, bom, b -> b.replaceFrom(0, 500, 1, asked));
                t.due(21L - quantity, "quantity before", bom, b -> b.quantity(0, 1, 499));
                t.due((long) quantity, "quantity from then on", bom, b -> b.quantity(0, 1, 500));
            }
        });
        s.test("Returns the number of the new line.", t -> {
            BillOfMaterials bom = Fixtures.made(2);
            bom.addLine(0, 1, 1, 1, 1, 999);
            for (int line = 1; line < 40; line++) {
                int asked = line;
                t.due(line, "replaceFrom " + (line + 1), bom, b -> b.replaceFrom(asked - 1, asked + 1, 1, 1));
                t.due(ARGUMENT, "a refused replacement", bom, b -> b.replaceFrom(asked - 1, asked + 1, 1, 1));
            }
        });
    }

    private static void replacing(Sentences t) {
        BillOfMaterials bom = Fixtures.made(4);
        bom.addVariant(0, 5, 1, 4, 2, 6);
        bom.addLine(0, 2, 3, 1, 1, 999);
        bom.setScrap(0, 50);
        bom.endBefore(0, 901);
        t.due(2, "replaceFrom(0, 500, 2, 3)", bom, b -> b.replaceFrom(0, 500, 2, 3));
        t.due(499, "the line ends before", bom, b -> b.lastSerial(0));
        t.due(900, "the previous last serial number is kept", bom, b -> b.lastSerial(2));
        t.due(false, "the condition isn't fulfilled", bom, b -> b.holds(2, 500));
        boolean[] want = {false, true, true, false};
        for (int choice = 0; choice < 4; choice++) {
            bom.setChoice(2, choice);
            t.due(want[choice], "the condition for " + choice, bom, b -> b.holds(2, 500));
            t.due(want[choice], "the old line's condition for " + choice, bom, b -> b.holds(0, 499));
        }
        bom.setChoice(2, 1);
        t.due("1x3,3x2", "the parent and the position", bom, b -> Fixtures.written(b, 0, 500));
        t.due("1x3,4x1", "the list before", bom, b -> Fixtures.written(b, 0, 499));
        t.due("1x3,3x2", "the list for the last number", bom, b -> Fixtures.written(b, 0, 900));
        t.due("1x3", "the list behind it", bom, b -> Fixtures.written(b, 0, 901));
        t.due(1.0f + 1.0f + 3.0f * 150.0f / 100.0f, "the scrap rate", bom, b -> b.cost(0, 500));
        t.due(STATE, "a line at the position", bom, b -> b.addLine(0, 5, 3, 1, 900, 900));
        t.due(3, "a line at the position behind", bom, b -> b.addLine(0, 5, 3, 1, 901, 901));
        t.due(50, "setScrap of the new line", bom, b -> b.setScrap(2, 1));
        t.due(50, "setScrap of the old line", bom, b -> b.setScrap(0, 2));
        t.due(4, "a replacement of the replacement", bom, b -> b.replaceFrom(2, 501, 1, 20));
        t.due(500, "which holds for one number", bom, b -> b.lastSerial(2));
        t.due(1, "and keeps its own scrap rate", bom, b -> b.setScrap(4, 0));
    }

    private static void replaceFromRefusals(Sentences s) {
        s.test("Throws `IndexOutOfBoundsException` if there is no such line or no such child", t -> {
            Refusals.noSuchLine(t, "the line", (b, line) -> b.replaceFrom(line, 500, 3, 1));
            Refusals.noSuchLine(t, "the line and the quantity", (b, line) -> b.replaceFrom(line, 500, 3, 0));
            Refusals.noSuchLine(t, "the line and the number", (b, line) -> b.replaceFrom(line, 0, 3, 1));
            Refusals.noSuchPart(t, "the child", (b, part) -> b.replaceFrom(0, 500, part, 1));
            Refusals.noSuchPart(t, "the child and the quantity", (b, part) -> b.replaceFrom(0, 500, part, 21));
            Refusals.noSuchPart(t, "the child and the number", (b, part) -> b.replaceFrom(0, 1000, part, 1));
        });
        s.test("Throws `IllegalArgumentException` if the quantity is out of range, or the serial number is not greater "
                + "than the first one of the line, or greater than its last one", t -> {
            Refusals.outsideOf(t, ARGUMENT, "quantity", 1, 20, (b, quantity) -> b.replaceFrom(0, 500, 3, quantity));
            Refusals.outsideOf(t, ARGUMENT, "quantity in a circle", 1, 20,
                    (b, quantity) -> b.replaceFrom(0, 500, 0, quantity));
            wrongCuts(t, "replaceFrom", (b, serial) -> b.replaceFrom(0, serial, 3, 1));
            wrongCuts(t, "replaceFrom in a circle", (b, serial) -> b.replaceFrom(0, serial, 0, 1));
            t.refused(ARGUMENT, "quantity too deep", () -> joined(5), b -> b.replaceFrom(0, 500, 2, 21));
            t.refused(ARGUMENT, "number too deep", () -> joined(5), b -> b.replaceFrom(0, 1, 2, 1));
            t.refused(ARGUMENT, "quantity when full", Fixtures::full, b -> b.replaceFrom(39, 500, 15, 0));
            t.refused(ARGUMENT, "first number when full", Fixtures::full, b -> b.replaceFrom(39, 1, 15, 1));
            t.refused(ARGUMENT, "number behind when full", Fixtures::full, b -> b.replaceFrom(39, 1000, 15, 1));
            t.refused(ARGUMENT, "number behind when full", Fixtures::full, b -> b.replaceFrom(0, 961, 15, 1));
        });
        s.test("Throws `UnsupportedOperationException` if the new line would be a circle", t -> {
            t.refused(CIRCLE, "by its parent", Fixtures::rich, b -> b.replaceFrom(0, 500, 0, 1));
            for (int lines = 1; lines <= 4; lines++) {
                int last = lines;
                t.refused(CIRCLE, "back over " + (lines - 1) + " lines", () -> Fixtures.chain(last),
                        b -> b.replaceFrom(last - 1, 500, 0, 1));
            }
            t.refused(CIRCLE, "back over a line that ended", () -> {
                BillOfMaterials bom = Fixtures.chain(2);
                bom.endBefore(0, 2);
                return bom;
            }, b -> b.replaceFrom(1, 999, 0, 1));
            t.refused(CIRCLE, "too deep too", Fixtures::deep, b -> b.replaceFrom(3, 500, 0, 1));
            t.refused(CIRCLE, "when full", Fixtures::full, b -> b.replaceFrom(12, 500, 0, 1));
            t.refused(CIRCLE, "by its parent when full", Fixtures::full, b -> b.replaceFrom(39, 500, 6, 1));
        });
        s.test("Throws `IllegalStateException` if it would be too deep, or there are 40 lines", t -> {
            t.refused(STATE, "a fifth line below", LinesSentences::deepAndOneLine, b -> b.replaceFrom(3, 500, 5, 1));
            BillOfMaterials shorter = deepAndOneLine();
            t.due(5, "a fourth line below", shorter, b -> b.replaceFrom(2, 500, 5, 1));
            t.refused(STATE, "a chain of 4 lines below", () -> joined(5), b -> b.replaceFrom(0, 500, 2, 1));
            BillOfMaterials bom = joined(4);
            t.due(4, "a chain of 3 lines below", bom, b -> b.replaceFrom(0, 500, 2, 1));
            BillOfMaterials same = Fixtures.deep();
            t.due(4, "by the same child at the end of 4 lines", same, b -> b.replaceFrom(3, 999, 4, 20));
            BillOfMaterials almost = Fixtures.lines(39);
            t.due(39, "the 40th line", almost, b -> b.replaceFrom(38, 998, 15, 1));
            t.due(STATE, "the 41st line", almost, b -> b.replaceFrom(37, 998, 15, 1));
            t.due(998, "lastSerial(37)", almost, b -> b.lastSerial(37));
            t.refused(STATE, "the first line when full", Fixtures::full, b -> b.replaceFrom(0, 2, 1, 1));
            t.refused(STATE, "the last line when full", Fixtures::full, b -> b.replaceFrom(39, 999, 15, 20));
            t.refused(STATE, "too deep when full", Fixtures::full, b -> b.replaceFrom(39, 999, 0, 20));
        });
    }

    /** A chain of 4 lines over the parts 0 to 4, and a line from the part 5 to the part 6. */
    private static BillOfMaterials deepAndOneLine() {
        BillOfMaterials bom = Fixtures.deep();
        bom.addPart('b', 100, 1000);
        bom.addLine(5, 1, 6, 1, 1, 999);
        return bom;
    }

    /** The line 0 from the part 0 to the part 1, and beside it a chain of parts from 2 on. */
    private static BillOfMaterials joined(int chainParts) {
        BillOfMaterials bom = Fixtures.made(2 + chainParts);
        bom.addLine(0, 1, 1, 1, 1, 999);
        for (int part = 2; part < 1 + chainParts; part++) {
            bom.addLine(part, 1, part + 1, 1, 1, 999);
        }
        return bom;
    }

    /** Numbers at which the line 0 of some objects can't be cut. */
    private static void wrongCuts(Sentences t, String what, Refusals.Call cut) {
        int[][] ranges = {{10, 990}, {1, 999}, {1, 1}, {999, 999}, {500, 500}, {1, 2}, {998, 999}};
        for (int[] range : ranges) {
            Supplier<BillOfMaterials> made = () -> {
                BillOfMaterials bom = Fixtures.made(4);
                bom.addLine(0, 2, 1, 1, range[0], range[1]);
                return bom;
            };
            for (int serial : new int[] {range[0], range[0] - 1, range[1] + 1, range[1] + 2, 0, -1, 1000,
                Integer.MIN_VALUE, Integer.MAX_VALUE, -range[1]}) {
                t.refused(ARGUMENT, what + " " + serial + " of " + range[0] + " to " + range[1], made,
                        b -> cut.answer(b, serial));
            }
        }
        t.refused(ARGUMENT, what + " behind a shortened line", () -> {
            BillOfMaterials bom = Fixtures.rich();
            bom.endBefore(0, 501);
            return bom;
        }, b -> cut.answer(b, 501));
    }

    // ---- promises 11 to 15

    private static void endBefore(Sentences s) {
        s.section("Promise 11: endBefore");
        s.test("Ends a line with the serial number before a given one.", t -> {
            BillOfMaterials bom = Fixtures.made(2);
            bom.addLine(0, 1, 1, 1, 10, 20);
            bom.endBefore(0, 15);
            t.due(14, "lastSerial(0)", bom, b -> b.lastSerial(0));
            t.due(true, "holds for the number before", bom, b -> b.holds(0, 14));
            t.due(false, "holds for the number", bom, b -> b.holds(0, 15));
            t.due(1L, "quantity for the number before", bom, b -> b.quantity(0, 1, 14));
            t.due(0L, "quantity for the number", bom, b -> b.quantity(0, 1, 15));
            t.due(true, "holds for the first number", bom, b -> b.holds(0, 10));
            t.due(1, "lines()", bom, b -> b.lines());
        });
        s.test("`line`: the line", t -> {
            for (int line : new int[] {0, 39}) {
                BillOfMaterials bom = Fixtures.lines(40);
                t.due(998, "endBefore", bom, b -> b.endBefore(line, 3));
                t.due(2, "lastSerial of the line", bom, b -> b.lastSerial(line));
                t.due(998, "lastSerial of another line", bom, b -> b.lastSerial(39 - line));
            }
        });
        s.test("`serial`: the given serial number", t -> {
            for (int[] row : new int[][] {{1, 999, 2}, {1, 999, 999}, {1, 2, 2}, {998, 999, 999}, {10, 20, 11},
                {10, 20, 20}}) {
                BillOfMaterials bom = Fixtures.made(2);
                bom.addLine(0, 1, 1, 1, row[0], row[1]);
                t.due(row[1], "endBefore " + row[2], bom, b -> b.endBefore(0, row[2]));
                t.due(row[2] - 1, "lastSerial(0)", bom, b -> b.lastSerial(0));
                t.due(true, "holds before", bom, b -> b.holds(0, row[2] - 1));
                t.due(false, "holds", bom, b -> b.holds(0, row[2]));
            }
        });
        s.test("Returns the previous last serial number of the line.", t -> {
            BillOfMaterials bom = Fixtures.made(2);
            bom.addLine(0, 1, 1, 1, 1, 999);
            bom.addLine(0, 2, 1, 1, 1, 7);
            t.due(999, "endBefore(0, 999)", bom, b -> b.endBefore(0, 999));
            t.due(998, "endBefore(0, 998)", bom, b -> b.endBefore(0, 998));
            t.due(997, "endBefore(0, 3)", bom, b -> b.endBefore(0, 3));
            t.due(ARGUMENT, "a refused one", bom, b -> b.endBefore(0, 3));
            t.due(2, "endBefore(0, 2)", bom, b -> b.endBefore(0, 2));
            t.due(7, "endBefore(1, 7)", bom, b -> b.endBefore(1, 7));
        });
        s.test("Throws `IndexOutOfBoundsException` if there is no such line", t -> {
            Refusals.noSuchLine(t, "endBefore 500", (b, line) -> b.endBefore(line, 500));
            Refusals.noSuchLine(t, "endBefore 0", (b, line) -> b.endBefore(line, 0));
            Refusals.noSuchLine(t, "endBefore 1000", (b, line) -> b.endBefore(line, 1000));
        });
        s.test("Throws `IllegalArgumentException` if the serial number is not greater than the first one of the line, "
                + "or greater than its last one", t -> {
            wrongCuts(t, "endBefore", (b, serial) -> b.endBefore(0, serial));
            t.refused(ARGUMENT, "the last line when full", Fixtures::full, b -> b.endBefore(39, 1));
            t.refused(ARGUMENT, "the last line when full", Fixtures::full, b -> b.endBefore(39, 1000));
        });
    }

    private static void setScrap(Sentences s) {
        s.section("Promise 12: setScrap");
        s.test("Changes the scrap rate of a line.", t -> {
            BillOfMaterials bom = Fixtures.chain(2);
            bom.setScrap(1, 50);
            t.due(1.0f + 3.0f * 150.0f / 100.0f, "cost of the parent", bom, b -> b.cost(1, 1));
            t.due(1.0f + 2.0f * 5.5f, "cost above", bom, b -> b.cost(0, 1));
            bom.setScrap(1, 0);
            t.due(4.0f, "cost of the parent then", bom, b -> b.cost(1, 1));
        });
        s.test("`line`: the line", t -> {
            for (int line : new int[] {0, 39}) {
                BillOfMaterials bom = Fixtures.lines(40);
                t.due(7, "setScrap", bom, b -> b.setScrap(line, 50));
                t.due(50, "setScrap again", bom, b -> b.setScrap(line, 0));
                t.due(7, "setScrap of another line", bom, b -> b.setScrap(39 - line, 0));
            }
        });
        s.test("`percent`: the new rate, 0 to 50", t -> {
            BillOfMaterials bom = Fixtures.chain(1);
            for (int percent = 0; percent <= 50; percent++) {
                int asked = percent;
                t.due(percent == 0 ? 0 : percent - 1, "setScrap " + percent, bom, b -> b.setScrap(0, asked));
                t.due(1.0f + 2.0f * (100.0f + percent) / 100.0f, "cost", bom, b -> b.cost(0, 1));
            }
        });
        s.test("Returns the previous rate.", t -> {
            BillOfMaterials bom = Fixtures.chain(2);
            t.due(0, "the first rate", bom, b -> b.setScrap(0, 50));
            t.due(50, "the rate 50", bom, b -> b.setScrap(0, 50));
            t.due(50, "the same rate again", bom, b -> b.setScrap(0, 1));
            t.due(ARGUMENT, "a refused rate", bom, b -> b.setScrap(0, 51));
            t.due(1, "the rate before the refused one", bom, b -> b.setScrap(0, 0));
            t.due(0, "the rate 0", bom, b -> b.setScrap(0, 5));
            t.due(0, "the rate of another line", bom, b -> b.setScrap(1, 5));
        });
        s.test("Throws `IndexOutOfBoundsException` if there is no such line", t -> {
            Refusals.noSuchLine(t, "setScrap 1", (b, line) -> b.setScrap(line, 1));
            Refusals.noSuchLine(t, "setScrap 51", (b, line) -> b.setScrap(line, 51));
            Refusals.noSuchLine(t, "setScrap -1", (b, line) -> b.setScrap(line, -1));
        });
        s.test("Throws `IllegalArgumentException` if the rate is out of range", t -> {
            Refusals.outsideOf(t, ARGUMENT, "setScrap of the first", 0, 50, (b, percent) -> b.setScrap(0, percent));
            Refusals.outsideOf(t, ARGUMENT, "setScrap of the last", 0, 50,
                    (b, percent) -> b.setScrap(b.lines() - 1, percent));
        });
    }

    private static void lines(Sentences s) {
        s.section("Promise 13: lines");
        s.test("Returns the number of lines.", t -> {
            BillOfMaterials bom = Fixtures.made(9);
            t.due(0, "lines() without lines", bom, b -> b.lines());
            bom.addLine(0, 1, 1, 1, 1, 999);
            t.due(1, "lines() after addLine", bom, b -> b.lines());
            bom.addVariant(0, 2, 1, 1, 0, 1);
            t.due(2, "lines() after addVariant", bom, b -> b.lines());
            bom.replaceFrom(1, 500, 1, 1);
            t.due(3, "lines() after replaceFrom", bom, b -> b.lines());
            bom.endBefore(1, 2);
            t.due(3, "lines() after endBefore", bom, b -> b.lines());
            t.due(CIRCLE, "a refused line", bom, b -> b.addLine(1, 1, 0, 1, 1, 999));
            t.due(3, "lines() after a refused line", bom, b -> b.lines());
            for (int line = 3; line < 40; line++) {
                bom.addLine(line / 6 + 1, line % 6 + 1, 8, 1, 1, 999);
                t.due(line + 1, "lines()", bom, b -> b.lines());
            }
            t.due(STATE, "the 41st line", bom, b -> b.addLine(7, 5, 8, 1, 1, 999));
            t.due(40, "lines() when full", bom, b -> b.lines());
        });
    }

    private static void lastSerial(Sentences s) {
        s.section("Promise 14: lastSerial");
        s.test("Returns the last serial number of a line.", t -> {
            BillOfMaterials bom = Fixtures.made(3);
            bom.addLine(0, 1, 1, 1, 1, 1);
            bom.addLine(0, 2, 1, 1, 999, 999);
            bom.addLine(0, 3, 1, 1, 1, 998);
            bom.addVariant(0, 4, 1, 1, 0, 1);
            int[] want = {1, 999, 998, 999};
            for (int line = 0; line < 4; line++) {
                int asked = line;
                t.due(want[line], "lastSerial(" + line + ")", bom, b -> b.lastSerial(asked));
            }
            bom.replaceFrom(2, 2, 2, 1);
            t.due(1, "lastSerial of the replaced line", bom, b -> b.lastSerial(2));
            t.due(998, "lastSerial of the new line", bom, b -> b.lastSerial(4));
            bom.endBefore(4, 998);
            t.due(997, "lastSerial after endBefore", bom, b -> b.lastSerial(4));
        });
        s.test("`line`: the line", t -> {
            BillOfMaterials bom = Fixtures.full();
            t.due(960, "the first of 40", bom, b -> b.lastSerial(0));
            t.due(999, "the last of 40", bom, b -> b.lastSerial(39));
        });
        s.test("Returns the serial number.", t -> {
            BillOfMaterials bom = Fixtures.made(2);
            bom.addLine(0, 1, 1, 1, 3, 5);
            t.due(5, "lastSerial(0)", bom, b -> b.lastSerial(0));
            bom.endBefore(0, 4);
            t.due(3, "lastSerial(0), the first number too", bom, b -> b.lastSerial(0));
        });
        s.test("Throws `IndexOutOfBoundsException` if there is no such line",
                t -> Refusals.noSuchLine(t, "lastSerial", (b, line) -> b.lastSerial(line)));
    }

    private static void holds(Sentences s) {
        s.section("Promise 15: holds");
        s.test("Returns whether a line holds for a serial number and the present configuration.", t -> {
            BillOfMaterials bom = Fixtures.made(2);
            bom.addVariant(0, 1, 1, 1, 1, 4);
            bom.endBefore(0, 500);
            t.due(false, "another choice", bom, b -> b.holds(0, 499));
            bom.setChoice(1, 2);
            t.due(true, "the choice", bom, b -> b.holds(0, 499));
            t.due(false, "behind the last number", bom, b -> b.holds(0, 500));
            bom.setChoice(1, 3);
            t.due(false, "the next choice", bom, b -> b.holds(0, 499));
        });
        s.test("`line`: the line", t -> {
            BillOfMaterials bom = Fixtures.full();
            t.due(true, "the first of 40", bom, b -> b.holds(0, 960));
            t.due(false, "the first of 40 behind its last number", bom, b -> b.holds(0, 961));
            t.due(true, "the last of 40", bom, b -> b.holds(39, 999));
            t.due(false, "the last but one", bom, b -> b.holds(38, 999));
        });
        s.test("`serial`: the serial number, 1 to 999", t -> {
            BillOfMaterials bom = Fixtures.made(2);
            bom.addLine(0, 1, 1, 1, 1, 1);
            bom.addLine(0, 2, 1, 1, 999, 999);
            bom.addLine(0, 3, 1, 1, 2, 998);
            int[] serials = {1, 2, 998, 999};
            boolean[][] want = {{true, false, false, false}, {false, false, false, true}, {false, true, true, false}};
            for (int line = 0; line < 3; line++) {
                for (int i = 0; i < 4; i++) {
                    int asked = line;
                    int serial = serials[i];
                    t.due(want[line][i], "holds(" + line + ", " + serial + ")", bom, b -> b.holds(asked, serial));
                }
            }
        });
        s.test("Returns true if it holds.", t -> {
            BillOfMaterials bom = Fixtures.made(2);
            bom.addLine(0, 1, 1, 1, 5, 5);
            t.due(false, "before", bom, b -> b.holds(0, 4));
            t.due(true, "for its one number", bom, b -> b.holds(0, 5));
            t.due(false, "behind", bom, b -> b.holds(0, 6));
        });
        s.test("Throws `IndexOutOfBoundsException` if there is no such line", t -> {
            Refusals.noSuchLine(t, "holds for 1", (b, line) -> b.holds(line, 1));
            Refusals.noSuchLine(t, "holds for 0", (b, line) -> b.holds(line, 0));
            Refusals.noSuchLine(t, "holds for 1000", (b, line) -> b.holds(line, 1000));
        });
        s.test("Throws `IllegalArgumentException` if the serial number is out of range", t -> {
            Refusals.serialOutOfRange(t, "holds of the first", (b, serial) -> b.holds(0, serial));
            Refusals.serialOutOfRange(t, "holds of the last", (b, serial) -> b.holds(b.lines() - 1, serial));
            Refusals.serialOutOfRange(t, "holds of an unfulfilled variant", (b, serial) -> b.holds(3, serial));
        });
    }

    // ---- promises 16 and 17

    private static void setChoice(Sentences s) {
        s.section("Promise 16: setChoice");
        s.test("Changes a choice of the present configuration.", t -> {
            BillOfMaterials bom = Fixtures.made(2);
            bom.addVariant(0, 1, 1, 1, 3, 8);
            bom.setChoice(3, 3);
            t.due(3, "choice(3)", bom, b -> b.choice(3));
            t.due(0, "choice(2)", bom, b -> b.choice(2));
            t.due(true, "holds", bom, b -> b.holds(0, 1));
            bom.setChoice(3, 2);
            t.due(false, "holds then", bom, b -> b.holds(0, 1));
        });
        s.test("`option`: the option, 0 to 3", t -> {
            for (int option = 0; option < 4; option++) {
                BillOfMaterials bom = new BillOfMaterials();
                int changed = option;
                t.due(0, "setChoice of " + option, bom, b -> b.setChoice(changed, 3));
                for (int other = 0; other < 4; other++) {
                    int asked = other;
                    t.due(other == option ? 3 : 0, "choice(" + other + ")", bom, b -> b.choice(asked));
                }
            }
        });
        s.test("`choice`: the new choice, 0 to 3", t -> {
            for (int choice = 0; choice < 4; choice++) {
                BillOfMaterials bom = new BillOfMaterials();
                int asked = choice;
                t.due(0, "setChoice of 0 to " + choice, bom, b -> b.setChoice(0, asked));
                t.due(choice, "choice(0)", bom, b -> b.choice(0));
                t.due(0, "setChoice of 3 to " + choice, bom, b -> b.setChoice(3, asked));
                t.due(choice, "choice(3)", bom, b -> b.choice(3));
            }
        });
        s.test("Returns the previous choice.", t -> {
            BillOfMaterials bom = new BillOfMaterials();
            t.due(0, "the first choice", bom, b -> b.setChoice(2, 3));
            t.due(3, "the choice 3", bom, b -> b.setChoice(2, 3));
            t.due(3, "the same choice again", bom, b -> b.setChoice(2, 1));
            t.due(ARGUMENT, "a refused choice", bom, b -> b.setChoice(2, 4));
            t.due(1, "the choice before the refused one", bom, b -> b.setChoice(2, 0));
            t.due(0, "the choice 0", bom, b -> b.setChoice(2, 2));
            t.due(0, "the choice of another option", bom, b -> b.setChoice(1, 2));
        });
        s.test("Throws `IndexOutOfBoundsException` if there is no such option", t -> {
            Refusals.outsideOf(t, INDEX, "setChoice to 1", 0, 3, (b, option) -> b.setChoice(option, 1));
            Refusals.outsideOf(t, INDEX, "setChoice to 4", 0, 3, (b, option) -> b.setChoice(option, 4));
            Refusals.outsideOf(t, INDEX, "setChoice to -1", 0, 3, (b, option) -> b.setChoice(option, -1));
            for (int option : new int[] {16, 32, 64, -16, -32}) {
                t.refused(INDEX, "setChoice of " + option, Fixtures::rich, b -> b.setChoice(option, 1));
            }
        });
        s.test("Throws `IllegalArgumentException` if the choice is out of range", t -> {
            Refusals.outsideOf(t, ARGUMENT, "setChoice of 0", 0, 3, (b, choice) -> b.setChoice(0, choice));
            Refusals.outsideOf(t, ARGUMENT, "setChoice of 3", 0, 3, (b, choice) -> b.setChoice(3, choice));
        });
    }

    private static void choice(Sentences s) {
        s.section("Promise 17: choice");
        s.test("Returns a choice of the present configuration.", t -> {
            BillOfMaterials bom = new BillOfMaterials();
            t.due(0, "choice(1) of a new object", bom, b -> b.choice(1));
            bom.setChoice(1, 3);
            t.due(3, "choice(1)", bom, b -> b.choice(1));
        });
        s.test("`option`: the option, 0 to 3", t -> {
            BillOfMaterials bom = new BillOfMaterials();
            for (int option = 0; option < 4; option++) {
                bom.setChoice(option, 3 - option);
            }
            for (int option = 0; option < 4; option++) {
                int asked = option;
                t.due(3 - option, "choice(" + option + ")", bom, b -> b.choice(asked));
            }
        });
        s.test("Returns the choice.", t -> {
            BillOfMaterials bom = new BillOfMaterials();
            for (int choice : new int[] {3, 0, 2, 1, 1, 0}) {
                bom.setChoice(0, choice);
                t.due(choice, "choice(0)", bom, b -> b.choice(0));
            }
        });
        s.test("Throws `IndexOutOfBoundsException` if there is no such option", t -> {
            Refusals.outsideOf(t, INDEX, "choice", 0, 3, (b, option) -> b.choice(option));
            t.due(INDEX, "choice(4) of a new object", new BillOfMaterials(), b -> b.choice(4));
            t.due(INDEX, "choice(-1) of a new object", new BillOfMaterials(), b -> b.choice(-1));
        });
    }
}
