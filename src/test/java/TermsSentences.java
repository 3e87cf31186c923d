import java.util.List;
import java.util.function.Supplier;

/** The sentences of 'What it is', 'Terms' and 'Not promised', each with its boundary cases. */
final class TermsSentences {
    private static final Class<?> INDEX = Sentences.INDEX;
    private static final Class<?> ARGUMENT = Sentences.ARGUMENT;
    private static final Class<?> CIRCLE = Sentences.CIRCLE;
    private static final Class<?> STATE = Sentences.STATE;
    private static final Class<?> ELEMENT = Sentences.ELEMENT;

    private record Named(String what, Sentences.Call call) { }

    private record Refused(Class<?> want, String what, Supplier<BillOfMaterials> made, Sentences.Call call) { }

    private TermsSentences() {
    }

    static void all(Sentences s) {
        s.section("What it is");
        s.test("A manager of multi-level bills of materials.", TermsSentences::fourLevels);
        s.test("An object is used for at most 512 calls after it has been made; what later calls answer is free.",
                TermsSentences::lastCall);
        s.section("Terms");
        general(s);
        parts(s);
        lines(s);
        options(s);
        structure(s);
        rollUps(s);
        orders(s);
        interfaceHeads(s);
        s.section("Not promised");
        s.noTest("How the state is held inside the object is free, as are the speed of each call, the text of toString "
                + "and the behaviour of equals and hashCode.");
        s.noTest("Use of one object from several threads at once is not promised to be safe.");
        s.test("Nothing is promised beyond the answers and state changes described above, and nothing about an object "
                + "after its 512th call.", TermsSentences::lastCall);
    }

    private static void general(Sentences s) {
        s.test("Lines of a bill can depend on options of the product (variants) and hold for ranges of serial numbers "
                + "(effectivity); phantom parts are passed through; quantities, costs and weights are rolled up over "
                + "all levels; orders give the need for each part.", TermsSentences::fourLevels);
        s.test("Quantities and costs can be computed in two ways: level by level, and by walking through every path.",
                TermsSentences::twoWays);
        s.noTest("This class is not thread-safe.");
        s.test("A method that throws an exception changes nothing.", TermsSentences::refusalsChangeNothing);
        s.test("If several conditions for an exception hold, the exception that is listed first is thrown.",
                TermsSentences::firstOfSeveral);
    }

    private static void parts(Sentences s) {
        s.test("There are at most 16 parts, numbered from 0 in the order in which they were added.",
                TermsSentences::sixteenParts);
        s.test("A part is bought 'b', made 'm' or a phantom 'p', and has an own price from 0 to 99999 cents and an own "
                + "weight from 0 to 99999 grams.", TermsSentences::kindsPricesAndWeights);
        s.test("The three kinds differ only in the direct list (see below).", TermsSentences::kindsDifferInListsOnly);
    }

    private static void lines(Sentences s) {
        s.test("There are at most 40 lines, numbered from 0 in the order in which they were added.",
                TermsSentences::fortyLines);
        s.test("A line belongs to a parent part and says that one unit of the parent contains a quantity from 1 to 20 "
                + "of a child part.", TermsSentences::lineQuantities);
        s.test("It has a position from 1 to 6, a scrap rate from 0 to 50 percent, a first and a last serial number, "
                + "and a condition or none.", TermsSentences::lineNumbers);
        s.test("A line never goes away, but its range of serial numbers can be shortened.",
                TermsSentences::linesNeverGoAway);
        s.test("Serial numbers go from 1 to 999.", TermsSentences::serialNumbers);
        s.test("A line holds only for the serial numbers from its first one to its last one.",
                TermsSentences::rangesOfLines);
    }

    private static void options(Sentences s) {
        s.test("A product has 4 options, numbered from 0 to 3.", TermsSentences::fourOptions);
        s.test("A configuration gives each option a choice from 0 to 3.", TermsSentences::fourChoices);
        s.test("There is a present configuration, in which initially all choices are 0.",
                TermsSentences::initialConfiguration);
        s.test("The condition of a line names an option and a set of choices, which is a number from 1 to 15: the "
                + "choice c belongs to the set if bit c of the number, with the value 2 to the power of c, is 1.",
                TermsSentences::setsOfChoices);
        s.test("The condition is fulfilled by a configuration if its choice for the option belongs to the set; a line "
                + "without a condition is fulfilled by every configuration.", TermsSentences::everyConfiguration);
        s.test("A line holds for a serial number and a configuration if it holds for the serial number and its "
                + "condition, if it has one, is fulfilled.", TermsSentences::rangeAndCondition);
    }

    private static void structure(Sentences s) {
        s.test("Two lines collide if they have the same parent and the same position, their ranges of serial numbers "
                + "have a common number, and there is a configuration that fulfils both.", TermsSentences::collisions);
        s.test("A line that would collide with another one is refused.", TermsSentences::collisionsAreRefused);
        s.test("So for each part, position, serial number and configuration, at most one line holds.",
                TermsSentences::oneLineHolds);
        s.test("A part directly contains a child if a line says so, whatever the range of serial numbers and the "
                + "condition are; a chain is a sequence of lines in which the child of each line is the parent of the "
                + "next one.", TermsSentences::chainsOfAnyLines);
        s.test("A line by which a part would contain itself, directly or through a chain, is a circle, and is refused.",
                TermsSentences::circles);
        s.test("A line by which there would be a chain of more than 4 lines is too deep, and is refused.",
                TermsSentences::tooDeep);
    }

    private static void rollUps(Sentences s) {
        s.test("In the following, the lines of a part are those that hold for the given serial number and the "
                + "configuration.", TermsSentences::linesThatHold);
        s.test("The quantity of a component in a part is the sum, over all chains of such lines from the part to the "
                + "component, of the products of the quantities of their lines; it is 1 if both are the same part.",
                TermsSentences::quantities);
        s.test("Scrap rates do not matter for quantities.", TermsSentences::scrapAndQuantities);
        s.test("The direct list of a part consists of entries, each with a part and a quantity: for each of its lines, "
                + "in the order of positions, an entry with the child and the quantity of the line, if the child is "
                + "not a phantom; if it is a phantom, the entries of the direct list of the phantom follow in its "
                + "place, with their quantities multiplied by the quantity of the line.", TermsSentences::directLists);
        s.test("Entries with the same part are not joined.", TermsSentences::entriesOfOnePart);
        s.test("The cost of a part is a float, computed in float arithmetic: it begins with the own price in cents, "
                + "converted to float, divided by 100.0f; then, for each line of the part in the order of positions, "
                + "this is added: the quantity, converted to float, times the float of 100 plus the scrap rate, "
                + "divided by 100.0f, times the cost of the child, computed from left to right.",
                CostsSentences::floatArithmetic);
        s.test("The weight of a part is a double: it begins with the own weight in grams, converted to double, divided "
                + "by 1000.0; then, for each line of the part in the order of positions, the quantity, converted to "
                + "double, times the weight of the child is added.", CostsSentences::doubleArithmetic);
    }

    private static void orders(Sentences s) {
        s.test("There are at most 8 orders, numbered from 0.", TermsSentences::eightOrders);
        s.test("An order has a part, a serial number and a number of units from 1 to 999, and keeps the configuration "
                + "that was the present one when it was made.", TermsSentences::ordersKeepTheirConfiguration);
        s.test("It can be cancelled.", TermsSentences::cancelledOrders);
        s.test("The need for a component is the sum, over all orders that are not cancelled, of the number of units "
                + "multiplied by the quantity of the component in the ordered part, for the serial number and the "
                + "configuration of the order.", TermsSentences::needs);
        s.test("An ordered part counts as a component of itself.", TermsSentences::orderedPartItself);
    }

    private static void interfaceHeads(Sentences s) {
        s.noTest("Ahead of the calls `addPart`, `setPrice`, `setGrams`, `setKind`, `parts`, `kind` the interface says: "
                + "---- parts.");
        s.noTest("Ahead of the calls `addLine`, `addVariant`, `replaceFrom`, `endBefore`, `setScrap`, `lines`, "
                + "`lastSerial`, `holds`, `setChoice`, `choice` the interface says: ---- lines.");
        s.test("Ahead of the calls `listSize`, `listPart`, `listQuantity`, `writeList`, `charAt`, `quantity`, "
                + "`quantityByWalking`, `whereUsed`, `levels` the interface says: ---- lists and quantities, for the "
                + "present configuration.", TermsSentences::listsForThePresentConfiguration);
        s.test("Ahead of the calls `cost`, `costByWalking`, `costBits`, `costCents`, `dearest`, `weight`, "
                + "`weightBits`, `markCosts`, `costChange` the interface says: ---- costs and weights, for the present "
                + "configuration.", TermsSentences::costsForThePresentConfiguration);
        s.noTest("Ahead of the calls `order`, `cancel`, `orderCost`, `need`, `isConsistent` the interface says: "
                + "---- orders.");
    }

    // ---- what it is, and what is said of all calls

    private static void fourLevels(Sentences t) {
        BillOfMaterials bom = Fixtures.chain(4);
        bom.addVariant(0, 2, 4, 9, 3, 8);
        bom.addLine(1, 2, 4, 8, 999, 999);
        t.due(120L, "quantity over four levels", bom, b -> b.quantity(0, 4, 1));
        t.due(136L, "quantity with a line that holds for 999 only", bom, b -> b.quantity(0, 4, 999));
        t.due(153.0f, "cost over four levels", bom, b -> b.cost(0, 1));
        t.due(153.0, "weight over four levels", bom, b -> b.weight(0, 1));
        t.due("2x1", "the list of a made part", bom, b -> Fixtures.written(b, 0, 1));
        for (int part = 1; part < 4; part++) {
            bom.setKind(part, 'p');
        }
        t.due("120x4", "the list through three phantoms", bom, b -> Fixtures.written(b, 0, 1));
        t.due(0, "order of the top", bom, b -> b.order(0, 1, 999));
        t.due(119880L, "need over four levels", bom, b -> b.need(4));
        t.due(24 * 999L, "need over three levels", bom, b -> b.need(3));
        bom.setChoice(3, 3);
        t.due(129L, "quantity with a variant", bom, b -> b.quantity(0, 4, 1));
    }

    /** The 512th call answers as it would have answered early. */
    private static void lastCall(Sentences t) {
        for (Named named : oneOfEach()) {
            Object want = Check.answerOf(() -> named.call.answer(Fixtures.rich()));
            BillOfMaterials bom = Fixtures.rich();
            for (int calls = Fixtures.RICH_CALLS; calls < 511; calls++) {
                fill(bom, calls);
            }
            t.due(want, named.what + " as the 512th call", bom, named.call);
        }
        BillOfMaterials busy = Fixtures.made(1);
        for (int calls = 1; calls < 511; calls++) {
            busy.setPrice(0, calls);
        }
        t.due(510, "setPrice as the 512th call", busy, b -> b.setPrice(0, 1));
    }

    /** A call that leaves everything as it was. */
    private static void fill(BillOfMaterials bom, int number) {
        switch (number % 6) {
            case 0 -> bom.writeList(0, 500);
            case 1 -> Check.answerOf(() -> bom.addLine(0, 1, 0, 1, 1, 999));
            case 2 -> bom.costByWalking(0, 500);
            case 3 -> Check.answerOf(() -> bom.addPart('x', 0, 0));
            case 4 -> bom.quantity(0, 3, 500);
            default -> bom.listSize(0, 500);
        }
    }

    private static List<Named> oneOfEach() {
        return List.of(
                new Named("addPart", b -> b.addPart('p', 1, 2)), new Named("setPrice", b -> b.setPrice(3, 9)),
                new Named("setGrams", b -> b.setGrams(3, 9)), new Named("setKind", b -> b.setKind(1, 'b')),
                new Named("parts", b -> b.parts()), new Named("kind", b -> b.kind(5)),
                new Named("addLine", b -> b.addLine(0, 2, 5, 20, 991, 999)),
                new Named("addVariant", b -> b.addVariant(0, 6, 5, 1, 3, 15)),
                new Named("replaceFrom", b -> b.replaceFrom(0, 990, 5, 20)),
                new Named("endBefore", b -> b.endBefore(0, 11)), new Named("setScrap", b -> b.setScrap(4, 0)),
                new Named("lines", b -> b.lines()), new Named("lastSerial", b -> b.lastSerial(2)),
                new Named("holds", b -> b.holds(5, 400)), new Named("setChoice", b -> b.setChoice(1, 3)),
                new Named("choice", b -> b.choice(2)), new Named("listSize", b -> b.listSize(0, 500)),
                new Named("listPart", b -> b.listPart(0, 500, 2)),
                new Named("listQuantity", b -> b.listQuantity(0, 500, 2)),
                new Named("writeList", b -> b.writeList(0, 500)), new Named("charAt", b -> b.charAt(3)),
                new Named("quantity", b -> b.quantity(0, 3, 500)),
                new Named("quantityByWalking", b -> b.quantityByWalking(0, 3, 500)),
                new Named("whereUsed", b -> b.whereUsed(3, 500)), new Named("levels", b -> b.levels(0, 500)),
                new Named("cost", b -> b.cost(0, 500)), new Named("costByWalking", b -> b.costByWalking(0, 500)),
                new Named("costBits", b -> b.costBits(0, 500)), new Named("costCents", b -> b.costCents(0, 500)),
                new Named("dearest", b -> b.dearest(0, 500)), new Named("weight", b -> b.weight(0, 500)),
                new Named("weightBits", b -> b.weightBits(0, 500)), new Named("markCosts", b -> b.markCosts(500)),
                new Named("costChange", b -> b.costChange(0, 500)), new Named("order", b -> b.order(0, 500, 5)),
                new Named("cancel", b -> b.cancel(0)), new Named("orderCost", b -> b.orderCost(1)),
                new Named("need", b -> b.need(3)), new Named("isConsistent", b -> b.isConsistent()));
    }

    private static void twoWays(Sentences t) {
        List<Supplier<BillOfMaterials>> objects =
                List.of(Fixtures::rich, Fixtures::full, TermsSentences::broadest, () -> Fixtures.chain(4));
        for (Supplier<BillOfMaterials> made : objects) {
            int parts = made.get().parts();
            for (int part = 0; part < parts; part++) {
                BillOfMaterials bom = made.get();
                int whole = part;
                for (int serial : new int[] {1, 500, 999}) {
                    t.due(bom.cost(part, serial), "costByWalking", bom, b -> b.costByWalking(whole, serial));
                    for (int component = 0; component < parts; component++) {
                        int asked = component;
                        t.due(bom.quantity(part, component, serial), "quantityByWalking", bom,
                                b -> b.quantityByWalking(whole, asked, serial));
                    }
                }
            }
        }
    }

    /** Six lines of 20 with the greatest scrap rate on each of four levels. */
    static BillOfMaterials broadest() {
        BillOfMaterials bom = new BillOfMaterials();
        for (int part = 0; part < 5; part++) {
            bom.addPart('m', 99999, 99999);
        }
        for (int line = 0; line < 24; line++) {
            bom.addLine(line / 6, line % 6 + 1, line / 6 + 1, 20, 1, 999);
            bom.setScrap(line, 50);
        }
        return bom;
    }

    private static void refusalsChangeNothing(Sentences t) {
        List<Refused> calls = List.of(
                new Refused(ARGUMENT, "addPart", Fixtures::rich, b -> b.addPart('b', 0, 100000)),
                new Refused(STATE, "addPart", Fixtures::full, b -> b.addPart('b', 0, 0)),
                new Refused(INDEX, "setPrice", Fixtures::rich, b -> b.setPrice(6, 0)),
                new Refused(ARGUMENT, "setPrice", Fixtures::rich, b -> b.setPrice(0, 100000)),
                new Refused(INDEX, "setGrams", Fixtures::rich, b -> b.setGrams(6, 0)),
                new Refused(ARGUMENT, "setGrams", Fixtures::rich, b -> b.setGrams(0, 100000)),
                new Refused(INDEX, "setKind", Fixtures::rich, b -> b.setKind(6, 'b')),
                new Refused(ARGUMENT, "setKind", Fixtures::rich, b -> b.setKind(0, 'x')),
                new Refused(INDEX, "addLine", Fixtures::rich, b -> b.addLine(0, 1, 6, 1, 1, 999)),
                new Refused(ARGUMENT, "addLine", Fixtures::rich, b -> b.addLine(0, 1, 3, 1, 1, 1000)),
                new Refused(CIRCLE, "addLine", Fixtures::rich, b -> b.addLine(3, 1, 0, 1, 1, 999)),
                new Refused(STATE, "addLine", Fixtures::rich, b -> b.addLine(0, 2, 3, 1, 990, 990)),
                new Refused(INDEX, "addVariant", Fixtures::rich, b -> b.addVariant(0, 1, 6, 1, 0, 1)),
                new Refused(ARGUMENT, "addVariant", Fixtures::rich, b -> b.addVariant(0, 1, 3, 1, 0, 16)),
                new Refused(CIRCLE, "addVariant", Fixtures::rich, b -> b.addVariant(3, 1, 0, 1, 0, 1)),
                new Refused(STATE, "addVariant", Fixtures::rich, b -> b.addVariant(0, 4, 3, 1, 1, 4)),
                new Refused(INDEX, "replaceFrom", Fixtures::rich, b -> b.replaceFrom(0, 500, 6, 1)),
                new Refused(ARGUMENT, "replaceFrom", Fixtures::rich, b -> b.replaceFrom(0, 10, 3, 1)),
                new Refused(CIRCLE, "replaceFrom", Fixtures::rich, b -> b.replaceFrom(2, 300, 0, 1)),
                new Refused(STATE, "replaceFrom", Fixtures::full, b -> b.replaceFrom(0, 500, 3, 1)),
                new Refused(INDEX, "endBefore", Fixtures::rich, b -> b.endBefore(6, 500)),
                new Refused(ARGUMENT, "endBefore", Fixtures::rich, b -> b.endBefore(0, 991)),
                new Refused(INDEX, "setScrap", Fixtures::rich, b -> b.setScrap(6, 1)),
                new Refused(ARGUMENT, "setScrap", Fixtures::rich, b -> b.setScrap(0, 51)),
                new Refused(INDEX, "setChoice", Fixtures::rich, b -> b.setChoice(4, 1)),
                new Refused(ARGUMENT, "setChoice", Fixtures::rich, b -> b.setChoice(0, 4)),
                new Refused(ELEMENT, "listPart", Fixtures::rich, b -> b.listPart(0, 500, 3)),
                new Refused(ELEMENT, "listQuantity", Fixtures::rich, b -> b.listQuantity(0, 500, 3)),
                new Refused(INDEX, "writeList", Fixtures::rich, b -> b.writeList(6, 1)),
                new Refused(ARGUMENT, "writeList", Fixtures::rich, b -> b.writeList(3, 1000)),
                new Refused(INDEX, "charAt", Fixtures::rich, b -> b.charAt(4000)),
                new Refused(ELEMENT, "dearest", Fixtures::rich, b -> b.dearest(3, 1)),
                new Refused(ARGUMENT, "markCosts", Fixtures::rich, b -> b.markCosts(1000)),
                new Refused(ELEMENT, "costChange", Fixtures::rich, b -> b.costChange(5, 1)),
                new Refused(INDEX, "order", Fixtures::rich, b -> b.order(6, 1, 1)),
                new Refused(ARGUMENT, "order", Fixtures::rich, b -> b.order(0, 1, 1000)),
                new Refused(STATE, "order", Fixtures::full, b -> b.order(0, 1, 1)),
                new Refused(INDEX, "cancel", Fixtures::rich, b -> b.cancel(3)),
                new Refused(STATE, "cancel", Fixtures::rich, b -> b.cancel(1)));
        for (Refused refused : calls) {
            t.refused(refused.want, refused.what, refused.made, refused.call);
        }
    }

    /** Of each call with several exceptions: pairs of conditions that hold at once. */
    private static void firstOfSeveral(Sentences t) {
        List<Refused> calls = List.of(
                new Refused(ARGUMENT, "addPart", Fixtures::full, b -> b.addPart('x', 0, 0)),
                new Refused(INDEX, "setPrice", Fixtures::rich, b -> b.setPrice(6, -1)),
                new Refused(INDEX, "setGrams", Fixtures::rich, b -> b.setGrams(6, -1)),
                new Refused(INDEX, "setKind", Fixtures::rich, b -> b.setKind(6, 'x')),
                new Refused(INDEX, "addLine", Fixtures::rich, b -> b.addLine(6, 0, 6, 0, 0, 0)),
                new Refused(ARGUMENT, "addLine", Fixtures::full, b -> b.addLine(0, 0, 0, 1, 1, 1)),
                new Refused(CIRCLE, "addLine", Fixtures::full, b -> b.addLine(0, 1, 0, 1, 1, 1)),
                new Refused(INDEX, "addVariant", Fixtures::rich, b -> b.addVariant(6, 0, 6, 0, 4, 0)),
                new Refused(ARGUMENT, "addVariant", Fixtures::full, b -> b.addVariant(0, 1, 0, 1, 0, 16)),
                new Refused(CIRCLE, "addVariant", Fixtures::full, b -> b.addVariant(0, 1, 0, 1, 0, 1)),
                new Refused(INDEX, "replaceFrom", Fixtures::rich, b -> b.replaceFrom(6, 0, 0, 0)),
                new Refused(ARGUMENT, "replaceFrom", Fixtures::full, b -> b.replaceFrom(0, 500, 0, 21)),
                new Refused(CIRCLE, "replaceFrom", Fixtures::full, b -> b.replaceFrom(0, 500, 0, 1)),
                new Refused(INDEX, "endBefore", Fixtures::rich, b -> b.endBefore(6, 0)),
                new Refused(INDEX, "setScrap", Fixtures::rich, b -> b.setScrap(6, 51)),
                new Refused(INDEX, "holds", Fixtures::rich, b -> b.holds(6, 0)),
                new Refused(INDEX, "setChoice", Fixtures::rich, b -> b.setChoice(4, 4)),
                new Refused(INDEX, "listSize", Fixtures::rich, b -> b.listSize(6, 0)),
                new Refused(INDEX, "listPart", Fixtures::rich, b -> b.listPart(6, 0, -1)),
                new Refused(ARGUMENT, "listPart", Fixtures::rich, b -> b.listPart(0, 0, -1)),
                new Refused(INDEX, "listQuantity", Fixtures::rich, b -> b.listQuantity(6, 0, -1)),
                new Refused(ARGUMENT, "listQuantity", Fixtures::rich, b -> b.listQuantity(0, 0, -1)),
                new Refused(INDEX, "writeList", Fixtures::rich, b -> b.writeList(6, 0)),
                new Refused(INDEX, "quantity", Fixtures::rich, b -> b.quantity(0, 6, 0)),
                new Refused(INDEX, "quantityByWalking", Fixtures::rich, b -> b.quantityByWalking(0, 6, 0)),
                new Refused(INDEX, "whereUsed", Fixtures::rich, b -> b.whereUsed(6, 0)),
                new Refused(INDEX, "levels", Fixtures::rich, b -> b.levels(6, 0)),
                new Refused(INDEX, "cost", Fixtures::rich, b -> b.cost(6, 0)),
                new Refused(INDEX, "costByWalking", Fixtures::rich, b -> b.costByWalking(6, 0)),
                new Refused(INDEX, "costBits", Fixtures::rich, b -> b.costBits(6, 0)),
                new Refused(INDEX, "costCents", Fixtures::rich, b -> b.costCents(6, 0)),
                new Refused(INDEX, "dearest", Fixtures::rich, b -> b.dearest(6, 0)),
                new Refused(ARGUMENT, "dearest", Fixtures::rich, b -> b.dearest(3, 0)),
                new Refused(INDEX, "weight", Fixtures::rich, b -> b.weight(6, 0)),
                new Refused(INDEX, "weightBits", Fixtures::rich, b -> b.weightBits(6, 0)),
                new Refused(INDEX, "costChange", Fixtures::rich, b -> b.costChange(6, 0)),
                new Refused(ARGUMENT, "costChange", Fixtures::rich, b -> b.costChange(5, 0)),
                new Refused(INDEX, "order", Fixtures::full, b -> b.order(16, 0, 0)),
                new Refused(ARGUMENT, "order", Fixtures::full, b -> b.order(0, 1, 0)));
        for (Refused refused : calls) {
            t.refused(refused.want, refused.what, refused.made, refused.call);
        }
    }

    // ---- parts

    private static void sixteenParts(Sentences t) {
        BillOfMaterials bom = new BillOfMaterials();
        t.due(0, "parts before the first", bom, b -> b.parts());
        for (int part = 0; part < 16; part++) {
            char kind = "bmp".charAt(part % 3);
            int cents = 100 * part;
            t.due(ARGUMENT, "a refused part", bom, b -> b.addPart('x', 0, 0));
            t.due(part, "addPart", bom, b -> b.addPart(kind, cents, 0));
        }
        for (int part = 0; part < 16; part++) {
            int asked = part;
            t.due("bmp".charAt(part % 3), "kind(" + part + ")", bom, b -> b.kind(asked));
            t.due((float) part, "cost(" + part + ", 1)", bom, b -> b.cost(asked, 1));
        }
        t.due(STATE, "a part too many", bom, b -> b.addPart('b', 0, 0));
        t.due(STATE, "another part too many", bom, b -> b.addPart('p', 99999, 99999));
        t.due(16, "parts", bom, b -> b.parts());
        t.due(INDEX, "kind(16)", bom, b -> b.kind(16));
        t.refused(STATE, "addPart", Fixtures::full, b -> b.addPart('m', 1, 1));
    }

    private static void kindsPricesAndWeights(Sentences t) {
        for (char kind : new char[] {'b', 'm', 'p'}) {
            BillOfMaterials bom = new BillOfMaterials();
            t.due(0, "addPart with the least numbers", bom, b -> b.addPart(kind, 0, 0));
            t.due(1, "addPart with the greatest numbers", bom, b -> b.addPart(kind, 99999, 99999));
            t.due(kind, "kind", bom, b -> b.kind(1));
            t.due(0.0f, "the least cost", bom, b -> b.cost(0, 1));
            t.due(0.0, "the least weight", bom, b -> b.weight(0, 1));
            t.due(999.99f, "the greatest own cost", bom, b -> b.cost(1, 1));
            t.due(99.999, "the greatest own weight", bom, b -> b.weight(1, 1));
            t.refused(ARGUMENT, "a price below", Fixtures::rich, b -> b.addPart(kind, -1, 0));
            t.refused(ARGUMENT, "a price above", Fixtures::rich, b -> b.addPart(kind, 100000, 0));
            t.refused(ARGUMENT, "a weight below", Fixtures::rich, b -> b.addPart(kind, 0, -1));
            t.refused(ARGUMENT, "a weight above", Fixtures::rich, b -> b.addPart(kind, 0, 100000));
        }
        for (int sign = 0; sign < 65536; sign++) {
            char kind = (char) sign;
            boolean known = kind == 'b' || kind == 'm' || kind == 'p';
            BillOfMaterials bom = new BillOfMaterials();
            t.due(known ? 0 : ARGUMENT, "addPart with the sign " + sign, bom, b -> b.addPart(kind, 0, 0));
        }
    }

    private static void kindsDifferInListsOnly(Sentences t) {
        for (char kind : new char[] {'b', 'm', 'p'}) {
            BillOfMaterials bom = Fixtures.made(3);
            bom.setKind(1, kind);
            bom.addLine(0, 1, 1, 2, 1, 999);
            bom.addLine(1, 1, 2, 3, 1, 999);
            bom.order(0, 1, 1);
            bom.order(1, 1, 10);
            t.due(kind == 'p' ? "6x2" : "2x1", "the list with " + kind, bom, b -> Fixtures.written(b, 0, 1));
            t.due("3x2", "the list of " + kind + " itself", bom, b -> Fixtures.written(b, 1, 1));
            t.due(2L, "quantity of " + kind, bom, b -> b.quantity(0, 1, 1));
            t.due(6L, "quantity through " + kind, bom, b -> b.quantityByWalking(0, 2, 1));
            t.due(1, "whereUsed of " + kind, bom, b -> b.whereUsed(1, 1));
            t.due(2, "whereUsed through " + kind, bom, b -> b.whereUsed(2, 1));
            t.due(2, "levels through " + kind, bom, b -> b.levels(0, 1));
            t.due(9.0f, "cost through " + kind, bom, b -> b.cost(0, 1));
            t.due(4.0f, "cost of " + kind, bom, b -> b.costByWalking(1, 1));
            t.due(0, "dearest through " + kind, bom, b -> b.dearest(0, 1));
            t.due(9.0, "weight through " + kind, bom, b -> b.weight(0, 1));
            t.due(3, "markCosts with " + kind, bom, b -> b.markCosts(1));
            t.due(12L, "need of " + kind, bom, b -> b.need(1));
            t.due(36L, "need through " + kind, bom, b -> b.need(2));
            t.due(40.0f, "orderCost of " + kind, bom, b -> b.orderCost(1));
        }
    }

    // ---- lines and serial numbers

    private static void fortyLines(Sentences t) {
        BillOfMaterials bom = Fixtures.made(9);
        t.due(0, "lines before the first", bom, b -> b.lines());
        for (int line = 0; line < 38; line++) {
            int parent = line / 6;
            int position = line % 6 + 1;
            int last = line + 2;
            t.due(line, "addLine", bom, b -> b.addLine(parent, position, 7, 1, 1, last));
            t.due(STATE, "a colliding line gets no number", bom, b -> b.addLine(parent, position, 7, 1, 2, 2));
        }
        t.due(38, "the 39th line, a variant", bom, b -> b.addVariant(6, 3, 7, 1, 0, 1));
        t.due(39, "the 40th line, by replaceFrom", bom, b -> b.replaceFrom(38, 40, 7, 20));
        bom.endBefore(37, 2);
        t.due(40, "lines", bom, b -> b.lines());
        t.due(STATE, "addLine as the 41st", bom, b -> b.addLine(8, 1, 7, 1, 1, 1));
        for (int line = 0; line < 37; line++) {
            int asked = line;
            t.due(line + 2, "lastSerial(" + line + ")", bom, b -> b.lastSerial(asked));
        }
        t.due(999, "lastSerial(39)", bom, b -> b.lastSerial(39));
        t.due(INDEX, "lastSerial(40)", bom, b -> b.lastSerial(40));
        t.refused(STATE, "addLine when full", Fixtures::full, b -> b.addLine(14, 1, 15, 1, 1, 999));
        t.refused(STATE, "addVariant when full", Fixtures::full, b -> b.addVariant(14, 1, 15, 1, 0, 1));
        t.refused(STATE, "replaceFrom when full", Fixtures::full, b -> b.replaceFrom(39, 2, 15, 1));
    }

    private static void lineQuantities(Sentences t) {
        BillOfMaterials bom = Fixtures.made(4);
        t.due(0, "addLine with 1", bom, b -> b.addLine(0, 1, 2, 1, 1, 499));
        t.due(1, "addLine with 20", bom, b -> b.addLine(0, 1, 2, 20, 500, 999));
        t.due(2, "addVariant with 1", bom, b -> b.addVariant(1, 1, 2, 1, 0, 2));
        t.due(3, "addVariant with 20", bom, b -> b.addVariant(1, 1, 2, 20, 0, 1));
        t.due(4, "replaceFrom with 20", bom, b -> b.replaceFrom(0, 100, 2, 20));
        t.due(5, "replaceFrom with 1", bom, b -> b.replaceFrom(1, 600, 2, 1));
        t.due(1L, "the least quantity", bom, b -> b.quantity(0, 2, 99));
        t.due(20L, "the greatest quantity of the new line", bom, b -> b.quantity(0, 2, 100));
        t.due(20L, "the greatest quantity", bom, b -> b.quantity(0, 2, 599));
        t.due(1L, "the least quantity of the new line", bom, b -> b.quantity(0, 2, 600));
        t.due(20L, "the greatest quantity of a variant", bom, b -> b.quantity(1, 2, 1));
        t.due(0L, "the parent in the child", bom, b -> b.quantity(2, 0, 1));
        for (int quantity : new int[] {0, 21, -1}) {
            t.refused(ARGUMENT, "addLine with " + quantity, Fixtures::rich, b -> b.addLine(0, 1, 3, quantity, 1, 999));
            t.refused(ARGUMENT, "addVariant with " + quantity, Fixtures::rich,
                    b -> b.addVariant(0, 1, 3, quantity, 0, 1));
            t.refused(ARGUMENT, "replaceFrom with " + quantity, Fixtures::rich,
                    b -> b.replaceFrom(0, 500, 3, quantity));
        }
    }

    private static void lineNumbers(Sentences t) {
        BillOfMaterials bom = Fixtures.made(2);
        for (int position = 1; position <= 6; position++) {
            int asked = position;
            t.due(position - 1, "addLine at " + position, bom, b -> b.addLine(0, asked, 1, 1, asked, 999 - asked));
            t.due(999 - position, "lastSerial", bom, b -> b.lastSerial(asked - 1));
            t.due(false, "holds before its first", bom, b -> asked > 1 && b.holds(asked - 1, asked - 1));
            t.due(true, "holds for its first", bom, b -> b.holds(asked - 1, asked));
        }
        t.due(6, "listSize", bom, b -> b.listSize(0, 500));
        for (int position : new int[] {0, 7}) {
            t.refused(ARGUMENT, "addLine at " + position, Fixtures::rich, b -> b.addLine(0, position, 3, 1, 1, 999));
            t.refused(ARGUMENT, "addVariant at " + position, Fixtures::rich,
                    b -> b.addVariant(0, position, 3, 1, 0, 1));
        }
        t.due(0, "setScrap 50", bom, b -> b.setScrap(0, 50));
        t.due(50, "setScrap 0", bom, b -> b.setScrap(0, 0));
        t.refused(ARGUMENT, "setScrap -1", Fixtures::rich, b -> b.setScrap(0, -1));
        t.refused(ARGUMENT, "setScrap 51", Fixtures::rich, b -> b.setScrap(0, 51));
        t.due(true, "a line with no condition", bom, b -> b.holds(0, 1));
        bom.setChoice(0, 3);
        t.due(true, "a line with no condition for another choice", bom, b -> b.holds(0, 1));
    }

    private static void linesNeverGoAway(Sentences t) {
        BillOfMaterials bom = Fixtures.made(3);
        bom.addLine(0, 1, 1, 1, 1, 999);
        t.due(999, "endBefore 2", bom, b -> b.endBefore(0, 2));
        t.due(1, "lines", bom, b -> b.lines());
        t.due(1, "lastSerial", bom, b -> b.lastSerial(0));
        t.due(true, "the line still holds for its first number", bom, b -> b.holds(0, 1));
        t.due(ARGUMENT, "endBefore 1", bom, b -> b.endBefore(0, 1));
        t.due(ARGUMENT, "endBefore 2 again", bom, b -> b.endBefore(0, 2));
        t.due(ARGUMENT, "replaceFrom 1", bom, b -> b.replaceFrom(0, 1, 2, 1));
        t.due(ARGUMENT, "endBefore 999 would make the range longer", bom, b -> b.endBefore(0, 999));
        t.due(CIRCLE, "the line still makes circles", bom, b -> b.addLine(1, 1, 0, 1, 500, 500));
        t.due(STATE, "the line still collides", bom, b -> b.addLine(0, 1, 1, 1, 1, 1));
        t.due(1, "a line in the range that became free", bom, b -> b.addLine(0, 1, 1, 1, 2, 999));
    }

    private static void serialNumbers(Sentences t) {
        BillOfMaterials bom = Fixtures.made(2);
        t.due(0, "addLine from 1 to 1", bom, b -> b.addLine(0, 1, 1, 1, 1, 1));
        t.due(1, "addLine from 999 to 999", bom, b -> b.addLine(0, 1, 1, 1, 999, 999));
        t.due(2, "addLine from 1 to 999", bom, b -> b.addLine(0, 2, 1, 1, 1, 999));
        t.due(3, "replaceFrom 999", bom, b -> b.replaceFrom(2, 999, 1, 1));
        t.due(2, "markCosts(1)", bom, b -> b.markCosts(1));
        t.due(2, "markCosts(999)", bom, b -> b.markCosts(999));
        t.due(0, "order for 1", bom, b -> b.order(0, 1, 1));
        t.due(1, "order for 999", bom, b -> b.order(0, 999, 1));
        for (int serial : new int[] {0, 1000}) {
            t.refused(ARGUMENT, "addLine from " + serial, Fixtures::rich, b -> b.addLine(0, 1, 3, 1, serial, 999));
            t.refused(ARGUMENT, "addLine to " + serial, Fixtures::rich, b -> b.addLine(0, 1, 3, 1, 1, serial));
            t.refused(ARGUMENT, "replaceFrom " + serial, Fixtures::rich, b -> b.replaceFrom(1, serial, 3, 1));
            t.refused(ARGUMENT, "endBefore " + serial, Fixtures::rich, b -> b.endBefore(1, serial));
            t.refused(ARGUMENT, "holds for " + serial, Fixtures::rich, b -> b.holds(1, serial));
            t.refused(ARGUMENT, "cost for " + serial, Fixtures::rich, b -> b.cost(0, serial));
            t.refused(ARGUMENT, "order for " + serial, Fixtures::rich, b -> b.order(0, serial, 1));
            t.refused(ARGUMENT, "markCosts for " + serial, Fixtures::rich, b -> b.markCosts(serial));
        }
    }

    private static void rangesOfLines(Sentences t) {
        int[][] ranges = {{1, 1}, {999, 999}, {1, 999}, {2, 998}, {400, 400}, {5, 9}};
        for (int[] range : ranges) {
            for (int from = 1; from <= 999; from += 250) {
                BillOfMaterials bom = Fixtures.made(2);
                bom.addLine(0, 1, 1, 1, range[0], range[1]);
                for (int serial = from; serial < from + 250 && serial <= 999; serial++) {
                    int asked = serial;
                    boolean inside = range[0] <= serial && serial <= range[1];
                    t.due(inside, range[0] + " to " + range[1] + " for " + serial, bom, b -> b.holds(0, asked));
                }
            }
        }
    }

    // ---- options

    private static void fourOptions(Sentences t) {
        BillOfMaterials bom = Fixtures.made(2);
        for (int option = 0; option < 4; option++) {
            int asked = option;
            t.due(0, "setChoice of " + option, bom, b -> b.setChoice(asked, asked));
            t.due(option, "a variant by the option " + option, bom, b -> b.addVariant(0, asked + 1, 1, 1, asked, 1));
        }
        for (int option = 0; option < 4; option++) {
            int asked = option;
            t.due(option, "choice of " + option, bom, b -> b.choice(asked));
            t.due(option == 0, "a variant that wants the choice 0 of " + option, bom, b -> b.holds(asked, 1));
        }
        for (int option : new int[] {-1, 4}) {
            t.refused(INDEX, "setChoice of " + option, Fixtures::rich, b -> b.setChoice(option, 0));
            t.refused(INDEX, "choice of " + option, Fixtures::rich, b -> b.choice(option));
            t.refused(ARGUMENT, "addVariant by " + option, Fixtures::rich, b -> b.addVariant(0, 1, 3, 1, option, 1));
        }
    }

    private static void fourChoices(Sentences t) {
        for (int number = 0; number < 16; number++) {
            int option = number / 4;
            int choice = number % 4;
            BillOfMaterials bom = new BillOfMaterials();
            t.due(0, "setChoice", bom, b -> b.setChoice(option, choice));
            for (int other = 0; other < 4; other++) {
                int asked = other;
                t.due(other == option ? choice : 0, "choice of " + other, bom, b -> b.choice(asked));
            }
            t.due(choice, "setChoice back", bom, b -> b.setChoice(option, 0));
            t.due(0, "choice then", bom, b -> b.choice(option));
            t.refused(ARGUMENT, "the choice -1", Fixtures::rich, b -> b.setChoice(option, -1));
            t.refused(ARGUMENT, "the choice 4", Fixtures::rich, b -> b.setChoice(option, 4));
        }
    }

    private static void initialConfiguration(Sentences t) {
        for (int option = 0; option < 4; option++) {
            BillOfMaterials bom = Fixtures.made(2);
            int asked = option;
            t.due(0, "choice of " + option, bom, b -> b.choice(asked));
            bom.addVariant(0, 1, 1, 1, option, 1);
            bom.addVariant(0, 2, 1, 1, option, 14);
            t.due(true, "a variant that wants 0 of " + option, bom, b -> b.holds(0, 1));
            t.due(false, "a variant that wants another choice of " + option, bom, b -> b.holds(1, 1));
        }
    }

    private static void setsOfChoices(Sentences t) {
        for (int number = 4; number < 64; number++) {
            int option = number % 4;
            int set = number / 4;
            BillOfMaterials bom = Fixtures.made(2);
            t.due(0, "addVariant with the set " + set, bom, b -> b.addVariant(0, 1, 1, 1, option, set));
            for (int choice = 0; choice < 4; choice++) {
                bom.setChoice(option, choice);
                int value = choice == 0 ? 1 : choice == 1 ? 2 : choice == 2 ? 4 : 8;
                t.due(set / value % 2 == 1, "the set " + set + " for " + choice, bom, b -> b.holds(0, 1));
            }
        }
        for (int set : new int[] {0, 16, -1, -15, 17, Integer.MIN_VALUE}) {
            t.refused(ARGUMENT, "addVariant with the set " + set, Fixtures::rich,
                    b -> b.addVariant(0, 1, 3, 1, 0, set));
        }
    }

    private static void everyConfiguration(Sentences t) {
        for (int number = 0; number < 256; number++) {
            int[] choices = {number % 4, number / 4 % 4, number / 16 % 4, number / 64};
            BillOfMaterials bom = Fixtures.made(2);
            bom.addLine(0, 1, 1, 1, 1, 999);
            for (int option = 0; option < 4; option++) {
                bom.setChoice(option, choices[option]);
                bom.addVariant(0, option + 2, 1, 1, option, 1 << option);
            }
            t.due(true, "a line without a condition", bom, b -> b.holds(0, 1));
            for (int option = 0; option < 4; option++) {
                int asked = option;
                t.due(choices[option] == option, "a condition on " + option, bom, b -> b.holds(asked + 1, 1));
            }
        }
    }

    private static void rangeAndCondition(Sentences t) {
        BillOfMaterials bom = Fixtures.made(2);
        bom.addVariant(0, 1, 1, 1, 2, 8);
        bom.replaceFrom(0, 500, 1, 1);
        t.due(false, "range without condition", bom, b -> b.holds(1, 500));
        t.due(false, "neither", bom, b -> b.holds(1, 499));
        bom.setChoice(2, 3);
        t.due(false, "condition without range", bom, b -> b.holds(1, 499));
        t.due(true, "both", bom, b -> b.holds(1, 500));
        t.due(true, "both of the old line", bom, b -> b.holds(0, 499));
        t.due(false, "condition without range of the old line", bom, b -> b.holds(0, 500));
    }

    // ---- unique lists and levels

    private static void collisions(Sentences t) {
        int[] ends = {1, 2, 500, 998, 999};
        for (int number = 0; number < 625; number++) {
            int first = ends[number % 5];
            int last = ends[number / 5 % 5];
            int otherFirst = ends[number / 25 % 5];
            int otherLast = ends[number / 125];
            if (first <= last && otherFirst <= otherLast) {
                BillOfMaterials bom = Fixtures.made(2);
                bom.addLine(0, 6, 1, 1, first, last);
                boolean common = first <= otherLast && otherFirst <= last;
                t.due(common ? STATE : 1, "ranges " + first + " to " + last + ", " + otherFirst + " to " + otherLast,
                        bom, b -> b.addLine(0, 6, 1, 1, otherFirst, otherLast));
            }
        }
        for (int number = 0; number < 3600; number++) {
            int option = number % 4;
            int set = number / 4 % 15 + 1;
            int other = number / 60 % 4;
            int otherSet = number / 240 + 1;
            BillOfMaterials bom = Fixtures.made(2);
            bom.addVariant(0, 1, 1, 1, option, set);
            t.due(option == other && (set & otherSet) == 0 ? 1 : STATE,
                    "conditions " + option + ":" + set + ", " + other + ":" + otherSet,
                    bom, b -> b.addVariant(0, 1, 1, 1, other, otherSet));
        }
        BillOfMaterials bom = Fixtures.made(4);
        bom.addLine(0, 1, 3, 1, 1, 999);
        t.due(1, "another parent", bom, b -> b.addLine(1, 1, 3, 1, 1, 999));
        t.due(2, "the next position", bom, b -> b.addLine(0, 2, 3, 1, 1, 999));
        t.due(3, "the last position", bom, b -> b.addVariant(0, 6, 3, 1, 0, 1));
        t.due(4, "the first position of the next part", bom, b -> b.addVariant(2, 1, 3, 1, 0, 1));
    }

    private static void collisionsAreRefused(Sentences t) {
        t.refused(STATE, "a line and a line", Fixtures::rich, b -> b.addLine(0, 2, 4, 1, 1, 10));
        t.refused(STATE, "a line behind a line", Fixtures::rich, b -> b.addLine(0, 2, 4, 1, 990, 999));
        t.refused(STATE, "a variant and a line", Fixtures::rich, b -> b.addVariant(0, 2, 4, 1, 0, 1));
        t.refused(STATE, "a line and a variant", Fixtures::rich, b -> b.addLine(0, 4, 4, 1, 1, 1));
        t.refused(STATE, "a variant and a variant", Fixtures::rich, b -> b.addVariant(0, 4, 4, 1, 1, 2));
        t.refused(STATE, "a variant of another option", Fixtures::rich, b -> b.addVariant(0, 4, 4, 1, 0, 1));
        t.refused(STATE, "a line and an ended line", Fixtures::rich, b -> b.addLine(1, 1, 4, 1, 399, 399));
        t.refused(STATE, "a line and a replacement", Fixtures::rich, b -> b.addLine(1, 1, 4, 1, 400, 400));
        BillOfMaterials bom = Fixtures.rich();
        t.due(6, "a line just before", bom, b -> b.addLine(0, 2, 4, 1, 1, 9));
        t.due(7, "a line just behind", bom, b -> b.addLine(0, 2, 4, 1, 991, 999));
        t.due(8, "a variant of the choices that are left", bom, b -> b.addVariant(0, 4, 4, 1, 1, 9));
        BillOfMaterials shortened = Fixtures.rich();
        shortened.endBefore(1, 500);
        t.due(STATE, "a line at the end of a shortened variant", shortened, b -> b.addLine(0, 4, 4, 1, 499, 999));
        t.due(6, "a line just behind a shortened variant", shortened, b -> b.addLine(0, 4, 4, 1, 500, 999));
    }

    private static void oneLineHolds(Sentences t) {
        BillOfMaterials bom = Fixtures.made(4);
        for (int option = 0; option < 4; option++) {
            for (int set = 1; set <= 15; set += 2) {
                int asked = option;
                int choices = set;
                Check.answerOf(() -> bom.addVariant(0, 3, 1, 1, asked, choices));
                Check.answerOf(() -> bom.addVariant(0, 3, 2, 1, asked, 15 - choices));
            }
        }
        bom.replaceFrom(0, 500, 2, 1);
        Check.answerOf(() -> bom.endBefore(1, 700));
        Check.answerOf(() -> bom.addLine(0, 3, 3, 1, 700, 999));
        Check.answerOf(() -> bom.addLine(0, 3, 3, 1, 500, 500));
        int lines = bom.lines();
        t.due(true, "there are several lines at one position", bom, b -> lines >= 3);
        for (int choice = 0; choice < 4; choice++) {
            bom.setChoice(0, choice);
            for (int serial : new int[] {1, 499, 500, 699, 700, 999}) {
                int held = 0;
                for (int line = 0; line < lines; line++) {
                    held += bom.holds(line, serial) ? 1 : 0;
                }
                int found = held;
                t.due(true, found + " lines hold at once", () -> found <= 1);
                t.due(found, "listSize", bom, b -> b.listSize(0, serial));
            }
        }
    }

    private static void chainsOfAnyLines(Sentences t) {
        Supplier<BillOfMaterials> scattered = () -> {
            BillOfMaterials bom = Fixtures.made(6);
            bom.addLine(0, 1, 1, 1, 1, 1);
            bom.addVariant(1, 1, 2, 1, 0, 2);
            bom.addVariant(2, 1, 3, 1, 0, 4);
            bom.addLine(3, 1, 4, 1, 1, 999);
            bom.endBefore(3, 2);
            return bom;
        };
        t.due(0L, "no chain holds as a whole", scattered.get(), b -> b.quantity(0, 4, 1));
        t.refused(CIRCLE, "a circle of lines that never hold at once", scattered,
                b -> b.addLine(4, 1, 0, 1, 999, 999));
        t.refused(CIRCLE, "a variant by another choice", scattered, b -> b.addVariant(2, 2, 0, 1, 0, 8));
        t.refused(STATE, "a fifth line for another number", scattered, b -> b.addLine(4, 1, 5, 1, 999, 999));
        t.refused(STATE, "a variant on top", scattered, b -> b.addVariant(5, 1, 0, 1, 0, 1));
    }

    private static void circles(Sentences t) {
        for (int lines = 0; lines <= 4; lines++) {
            int last = lines;
            Supplier<BillOfMaterials> chain = () -> Fixtures.chain(last);
            t.refused(CIRCLE, "a line back over " + lines + " lines", chain, b -> b.addLine(last, 6, 0, 1, 1, 999));
            t.refused(CIRCLE, "a variant back over " + lines + " lines", chain,
                    b -> b.addVariant(last, 6, 0, 1, 0, 1));
            if (lines > 0) {
                t.refused(CIRCLE, "the last line replaced by one back over " + lines + " lines", chain,
                        b -> b.replaceFrom(last - 1, 500, 0, 1));
                t.refused(CIRCLE, "the last part in itself", chain, b -> b.addLine(last, 6, last, 1, 1, 999));
            }
        }
        BillOfMaterials bom = Fixtures.chain(2);
        t.due(2, "a line over two levels is no circle", bom, b -> b.addLine(0, 2, 2, 1, 1, 999));
        t.due(3, "a second line to the same child is none", bom, b -> b.addLine(1, 2, 2, 1, 1, 999));
        BillOfMaterials full = Fixtures.made(16);
        full.addLine(15, 1, 0, 1, 1, 999);
        t.due(CIRCLE, "a circle of the first and the last part", full, b -> b.addLine(0, 1, 15, 1, 1, 999));
    }

    /** Chains of some lines above and below a line that joins them: together at most 4. */
    private static void tooDeep(Sentences t) {
        for (int above = 0; above <= 4; above++) {
            for (int below = 0; below <= 4; below++) {
                int up = above;
                int down = below;
                Supplier<BillOfMaterials> two = () -> twoChains(up, down);
                boolean fine = above + 1 + below <= 4;
                String what = above + " lines above, " + below + " below";
                Sentences.Call line = b -> b.addLine(up, 6, up + 1, 1, 1, 999);
                Sentences.Call variant = b -> b.addVariant(up, 6, up + 1, 1, 3, 8);
                if (fine) {
                    t.due(above + below, "addLine, " + what, two.get(), line);
                    t.due(above + below, "addVariant, " + what, two.get(), variant);
                } else {
                    t.refused(STATE, "addLine, " + what, two, line);
                    t.refused(STATE, "addVariant, " + what, two, variant);
                }
            }
        }
    }

    /** A chain of parts from 0 to above, and one from above + 1 on. */
    private static BillOfMaterials twoChains(int above, int below) {
        BillOfMaterials bom = Fixtures.made(above + below + 2);
        for (int part = 0; part < above; part++) {
            bom.addLine(part, 1, part + 1, 1, 1, 999);
        }
        for (int part = above + 1; part < above + 1 + below; part++) {
            bom.addLine(part, 1, part + 1, 1, 1, 999);
        }
        return bom;
    }

    // ---- quantities, lists, costs and weights

    private static void linesThatHold(Sentences t) {
        BillOfMaterials bom = Fixtures.made(3);
        bom.addLine(0, 1, 1, 2, 10, 20);
        bom.addVariant(0, 2, 1, 5, 2, 4);
        bom.addLine(1, 1, 2, 7, 20, 30);
        int[] serials = {9, 10, 19, 20, 21};
        long[] direct = {0, 2, 2, 2, 0};
        long[] deep = {0, 0, 0, 14, 0};
        for (int i = 0; i < serials.length; i++) {
            int serial = serials[i];
            t.due(direct[i], "quantity of 1 for " + serial, bom, b -> b.quantity(0, 1, serial));
            t.due(deep[i], "quantity of 2 for " + serial, bom, b -> b.quantity(0, 2, serial));
        }
        bom.setChoice(2, 2);
        t.due(5L, "quantity of 1 with the variant for 9", bom, b -> b.quantity(0, 1, 9));
        t.due(7L, "quantity of 1 with the variant for 10", bom, b -> b.quantity(0, 1, 10));
        t.due(49L, "quantity of 2 with the variant for 20", bom, b -> b.quantity(0, 2, 20));
        t.due(35L, "quantity of 2 with the variant for 30", bom, b -> b.quantity(0, 2, 30));
        t.due(0L, "quantity of 2 with the variant for 31", bom, b -> b.quantity(0, 2, 31));
        t.due(2, "levels for 20", bom, b -> b.levels(0, 20));
        t.due(1, "levels for 31", bom, b -> b.levels(0, 31));
    }

    private static void quantities(Sentences t) {
        BillOfMaterials bom = Fixtures.made(5);
        bom.addLine(0, 1, 1, 2, 1, 999);
        bom.addLine(0, 2, 2, 3, 1, 999);
        bom.addLine(1, 1, 2, 5, 1, 999);
        bom.addLine(1, 2, 3, 7, 1, 999);
        bom.addLine(2, 1, 3, 11, 1, 999);
        bom.addLine(0, 3, 3, 13, 1, 999);
        bom.addLine(0, 4, 3, 17, 1, 999);
        long[] want = {1, 2, 3 + 2 * 5, 13 + 17 + 2 * 7 + (3 + 2 * 5) * 11, 0};
        for (int part = 0; part < 5; part++) {
            int asked = part;
            t.due(want[part], "quantity of " + part, bom, b -> b.quantity(0, asked, 1));
            t.due(want[part], "quantityByWalking of " + part, bom, b -> b.quantityByWalking(0, asked, 1));
            t.due(1L, "quantity of " + part + " in itself", bom, b -> b.quantity(asked, asked, 1));
            t.due(1L, "quantityByWalking of " + part + " in itself", bom, b -> b.quantityByWalking(asked, asked, 999));
        }
        t.due(0L, "quantity of the parent in the child", bom, b -> b.quantity(3, 0, 1));
        BillOfMaterials broad = broadest();
        t.due(120L * 120 * 120 * 120, "the greatest quantity", broad, b -> b.quantity(0, 4, 1));
        t.due(120L * 120 * 120 * 120, "the same by walking", broad, b -> b.quantityByWalking(0, 4, 1));
    }

    private static void scrapAndQuantities(Sentences t) {
        BillOfMaterials bom = Fixtures.chain(4);
        bom.order(0, 1, 1);
        for (int line = 0; line < 4; line++) {
            bom.setScrap(line, 50);
        }
        t.due(120L, "quantity", bom, b -> b.quantity(0, 4, 1));
        t.due(120L, "quantityByWalking", bom, b -> b.quantityByWalking(0, 4, 1));
        t.due(120L, "need", bom, b -> b.need(4));
        t.due(2L, "listQuantity", bom, b -> b.listQuantity(0, 1, 0));
        t.due("2x1", "the list", bom, b -> Fixtures.written(b, 0, 1));
        t.due(153.0, "weight", bom, b -> b.weight(0, 1));
    }

    private static void directLists(Sentences t) {
        BillOfMaterials bom = Fixtures.parts("mbpmpp");
        t.due("", "the list without lines", bom, b -> Fixtures.written(b, 0, 1));
        bom.addLine(0, 6, 1, 20, 1, 999);
        t.due("20x1", "the list with one line", bom, b -> Fixtures.written(b, 0, 1));
        bom.addLine(0, 1, 3, 1, 1, 999);
        t.due("1x3,20x1", "the lines in the order of positions", bom, b -> Fixtures.written(b, 0, 1));
        bom.addLine(0, 3, 2, 5, 1, 999);
        t.due("1x3,20x1", "an empty phantom has no entry", bom, b -> Fixtures.written(b, 0, 1));
        bom.addLine(2, 6, 3, 2, 1, 999);
        bom.addLine(2, 2, 1, 4, 1, 999);
        t.due("1x3,20x1,10x3,20x1", "a phantom's entries in its place", bom, b -> Fixtures.written(b, 0, 1));
        bom.addLine(2, 4, 4, 3, 1, 999);
        bom.addLine(4, 1, 5, 20, 1, 999);
        bom.addLine(5, 1, 1, 20, 1, 999);
        t.due("1x3,20x1,6000x1,10x3,20x1", "phantoms inside phantoms", bom, b -> Fixtures.written(b, 0, 1));
        t.due("4x1,1200x1,2x3", "the list of a phantom itself", bom, b -> Fixtures.written(b, 2, 1));
        BillOfMaterials deep = broadest();
        for (int part = 1; part < 4; part++) {
            deep.setKind(part, 'p');
        }
        t.due(1296, "the longest list", deep, b -> b.listSize(0, 1));
        t.due(160000L, "the greatest quantity of an entry", deep, b -> b.listQuantity(0, 1, 1295));
        deep.setKind(4, 'p');
        t.due(0, "the list when all are phantoms", deep, b -> b.listSize(0, 1));
    }

    private static void entriesOfOnePart(Sentences t) {
        BillOfMaterials bom = Fixtures.parts("mbp");
        for (int position = 1; position <= 5; position++) {
            bom.addLine(0, position, 1, 1, 1, 999);
        }
        bom.addLine(2, 1, 1, 1, 1, 999);
        bom.addLine(2, 2, 1, 1, 1, 999);
        t.due("1x1,1x1,1x1,1x1,1x1", "equal lines", bom, b -> Fixtures.written(b, 0, 1));
        bom.addLine(0, 6, 2, 1, 1, 999);
        t.due("1x1,1x1,1x1,1x1,1x1,1x1,1x1", "equal entries of a phantom", bom, b -> Fixtures.written(b, 0, 1));
        t.due(7, "listSize", bom, b -> b.listSize(0, 1));
    }

    // ---- orders

    private static void eightOrders(Sentences t) {
        BillOfMaterials bom = Fixtures.made(1);
        t.due(INDEX, "orderCost before the first", bom, b -> b.orderCost(0));
        for (int order = 0; order < 8; order++) {
            t.due(ARGUMENT, "a refused order", bom, b -> b.order(0, 1, 0));
            t.due(order, "order", bom, b -> b.order(0, 1, 1));
            bom.cancel(order);
        }
        t.due(STATE, "an order too many", bom, b -> b.order(0, 1, 1));
        t.due(1.0f, "orderCost(7)", bom, b -> b.orderCost(7));
        t.due(INDEX, "orderCost(8)", bom, b -> b.orderCost(8));
        t.refused(STATE, "order", Fixtures::full, b -> b.order(15, 999, 999));
    }

    private static void ordersKeepTheirConfiguration(Sentences t) {
        BillOfMaterials bom = Fixtures.made(2);
        bom.addVariant(0, 1, 1, 2, 0, 8);
        bom.addVariant(0, 2, 1, 3, 3, 8);
        t.due(0, "order of one unit", bom, b -> b.order(0, 1, 1));
        bom.setChoice(0, 3);
        t.due(1, "order of 999 units", bom, b -> b.order(0, 999, 999));
        bom.setChoice(3, 3);
        t.due(2, "order with both options", bom, b -> b.order(0, 500, 10));
        bom.setChoice(0, 1);
        bom.setChoice(3, 1);
        t.due(1.0f, "orderCost(0)", bom, b -> b.orderCost(0));
        t.due(999 * 3.0f, "orderCost(1)", bom, b -> b.orderCost(1));
        t.due(60.0f, "orderCost(2)", bom, b -> b.orderCost(2));
        t.due(999L * 2 + 10 * 5, "need(1)", bom, b -> b.need(1));
        t.due(1L + 999 + 10, "need(0)", bom, b -> b.need(0));
        t.due(1.0f, "cost for the present configuration", bom, b -> b.cost(0, 1));
        t.refused(ARGUMENT, "order of no unit", Fixtures::rich, b -> b.order(0, 1, 0));
        t.refused(ARGUMENT, "order of 1000 units", Fixtures::rich, b -> b.order(0, 1, 1000));
    }

    private static void cancelledOrders(Sentences t) {
        BillOfMaterials bom = Fixtures.made(1);
        bom.order(0, 1, 999);
        t.due(999L, "need before", bom, b -> b.need(0));
        t.due(0, "cancel", bom, b -> b.cancel(0));
        t.due(0L, "need afterwards", bom, b -> b.need(0));
        t.due(STATE, "cancel again", bom, b -> b.cancel(0));
        t.due(999.0f, "orderCost of a cancelled order", bom, b -> b.orderCost(0));
        t.due(1, "the next order", bom, b -> b.order(0, 1, 5));
        t.due(5L, "need of the next order", bom, b -> b.need(0));
        t.refused(STATE, "cancel again", Fixtures::rich, b -> b.cancel(1));
    }

    private static void needs(Sentences t) {
        BillOfMaterials bom = broadest();
        t.due(0L, "need without orders", bom, b -> b.need(4));
        for (int order = 0; order < 8; order++) {
            bom.order(0, order < 4 ? 1 : 999, 999);
        }
        t.due(8 * 999 * 207360000L, "the greatest need", bom, b -> b.need(4));
        t.due(8 * 999L, "need of the ordered part", bom, b -> b.need(0));
        for (int order = 0; order < 7; order++) {
            bom.cancel(order);
        }
        t.due(999 * 207360000L, "need of the last order", bom, b -> b.need(4));
        bom.endBefore(0, 999);
        t.due(999 * 207360000L / 6 * 5, "need with a line that ended before", bom, b -> b.need(4));
        bom.cancel(7);
        t.due(0L, "need when all are cancelled", bom, b -> b.need(4));
    }

    private static void orderedPartItself(Sentences t) {
        BillOfMaterials bom = Fixtures.chain(1);
        bom.order(0, 1, 999);
        bom.order(1, 1, 3);
        t.due(999L, "need of the first part", bom, b -> b.need(0));
        t.due(999L * 2 + 3, "need of its child", bom, b -> b.need(1));
    }

    // ---- the present configuration

    private static BillOfMaterials choosing() {
        BillOfMaterials bom = Fixtures.made(3);
        bom.addVariant(0, 1, 1, 2, 3, 1);
        bom.addVariant(0, 2, 2, 5, 3, 8);
        bom.addVariant(1, 1, 2, 3, 3, 1);
        return bom;
    }

    private static void listsForThePresentConfiguration(Sentences t) {
        BillOfMaterials bom = choosing();
        t.due(1, "listSize", bom, b -> b.listSize(0, 1));
        t.due(1, "listPart", bom, b -> b.listPart(0, 1, 0));
        t.due(2L, "listQuantity", bom, b -> b.listQuantity(0, 1, 0));
        t.due("2x1", "writeList", bom, b -> Fixtures.written(b, 0, 1));
        t.due(6L, "quantity", bom, b -> b.quantity(0, 2, 1));
        t.due(6L, "quantityByWalking", bom, b -> b.quantityByWalking(0, 2, 1));
        t.due(2, "whereUsed", bom, b -> b.whereUsed(2, 1));
        t.due(2, "levels", bom, b -> b.levels(0, 1));
        bom.setChoice(3, 3);
        t.due('2', "charAt of the line as it was written", bom, b -> b.charAt(0));
        t.due(1, "listSize then", bom, b -> b.listSize(0, 1));
        t.due(2, "listPart then", bom, b -> b.listPart(0, 1, 0));
        t.due(5L, "listQuantity then", bom, b -> b.listQuantity(0, 1, 0));
        t.due("5x2", "writeList then", bom, b -> Fixtures.written(b, 0, 1));
        t.due(5L, "quantity then", bom, b -> b.quantity(0, 2, 1));
        t.due(5L, "quantityByWalking then", bom, b -> b.quantityByWalking(0, 2, 1));
        t.due(1, "whereUsed then", bom, b -> b.whereUsed(2, 1));
        t.due(1, "levels then", bom, b -> b.levels(0, 1));
    }

    private static void costsForThePresentConfiguration(Sentences t) {
        BillOfMaterials bom = choosing();
        t.due(9.0f, "cost", bom, b -> b.cost(0, 1));
        t.due(9.0f, "costByWalking", bom, b -> b.costByWalking(0, 1));
        t.due(0, "dearest", bom, b -> b.dearest(0, 1));
        t.due(9.0, "weight", bom, b -> b.weight(0, 1));
        t.due(3, "markCosts", bom, b -> b.markCosts(1));
        bom.setChoice(3, 3);
        t.due(6.0f, "cost then", bom, b -> b.cost(0, 1));
        t.due(6.0f, "costByWalking then", bom, b -> b.costByWalking(0, 1));
        t.due(Float.floatToIntBits(6.0f), "costBits then", bom, b -> b.costBits(0, 1));
        t.due(600, "costCents then", bom, b -> b.costCents(0, 1));
        t.due(1, "dearest then", bom, b -> b.dearest(0, 1));
        t.due(6.0, "weight then", bom, b -> b.weight(0, 1));
        t.due(Double.doubleToLongBits(6.0), "weightBits then", bom, b -> b.weightBits(0, 1));
        t.due(-3.0f, "costChange then", bom, b -> b.costChange(0, 1));
        t.due(3, "markCosts then", bom, b -> b.markCosts(1));
        t.due(0.0f, "costChange after the mark", bom, b -> b.costChange(0, 1));
        bom.setChoice(3, 1);
        t.due(-5.0f, "costChange for a choice without lines", bom, b -> b.costChange(0, 1));
    }
}
