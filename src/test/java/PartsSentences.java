/** The sentences of the promises 1 to 7, each with its boundary cases. */
final class PartsSentences {
    private static final Class<?> INDEX = Sentences.INDEX;
    private static final Class<?> ARGUMENT = Sentences.ARGUMENT;
    private static final Class<?> STATE = Sentences.STATE;
    private static final char[] KINDS = {'b', 'm', 'p'};
    private static final int[] NO_KINDS = {0, 'a', 'c', 'l', 'n', 'o', 'q', 'B', 'M', 'P', ' ', 'b' + 256, 65535};

    private PartsSentences() {
    }

    static void all(Sentences s) {
        newObject(s);
        addPart(s);
        setPrice(s);
        setGrams(s);
        setKind(s);
        parts(s);
        kind(s);
    }

    private static void newObject(Sentences s) {
        s.section("Promise 1: A new object");
        s.test("Creates a manager without parts, lines and orders.", t -> {
            BillOfMaterials bom = new BillOfMaterials();
            t.due(0, "parts()", bom, b -> b.parts());
            t.due(0, "lines()", bom, b -> b.lines());
            t.due(true, "isConsistent()", bom, b -> b.isConsistent());
            t.due(0, "markCosts(1)", bom, b -> b.markCosts(1));
            t.due(INDEX, "kind(0)", bom, b -> b.kind(0));
            t.due(INDEX, "lastSerial(0)", bom, b -> b.lastSerial(0));
            t.due(INDEX, "cancel(0)", bom, b -> b.cancel(0));
            t.due(INDEX, "orderCost(0)", bom, b -> b.orderCost(0));
            t.due(INDEX, "need(0)", bom, b -> b.need(0));
            t.due(INDEX, "charAt(0)", bom, b -> b.charAt(0));
            BillOfMaterials other = Fixtures.rich();
            t.due(6, "parts of another object", other, b -> b.parts());
            t.due(0, "parts() still", bom, b -> b.parts());
            t.due(0, "the first part", bom, b -> b.addPart('b', 0, 0));
            t.due(1, "the second part", bom, b -> b.addPart('b', 0, 0));
            t.due(0L, "need without orders", bom, b -> b.need(0));
            t.due(0, "the first line", bom, b -> b.addLine(0, 1, 1, 1, 1, 999));
            t.due(0, "the first order", bom, b -> b.order(0, 1, 1));
        });
    }

    private static void addPart(Sentences s) {
        s.section("Promise 2: addPart");
        s.test("Adds a part.", t -> {
            BillOfMaterials bom = new BillOfMaterials();
            bom.addPart('p', 1234, 4321);
            t.due(1, "parts()", bom, b -> b.parts());
            t.due('p', "kind(0)", bom, b -> b.kind(0));
            t.due(1234, "setPrice(0, 0)", bom, b -> b.setPrice(0, 0));
            t.due(4321, "setGrams(0, 0)", bom, b -> b.setGrams(0, 0));
            t.due(0, "levels of a part without lines", bom, b -> b.levels(0, 1));
            bom.addPart('m', 7, 8);
            t.due('p', "kind(0) with a second part", bom, b -> b.kind(0));
            t.due(0, "setPrice(0, 0) with a second part", bom, b -> b.setPrice(0, 0));
        });
        s.test("`kind`: 'b', 'm' or 'p'", t -> {
            for (char kind : KINDS) {
                BillOfMaterials bom = new BillOfMaterials();
                t.due(0, "addPart of " + kind, bom, b -> b.addPart(kind, 1, 1));
                t.due(kind, "kind(0)", bom, b -> b.kind(0));
            }
        });
        s.test("`cents`: its own price in cents, 0 to 99999", t -> {
            BillOfMaterials bom = new BillOfMaterials();
            t.due(0, "addPart with 0", bom, b -> b.addPart('b', 0, 1));
            t.due(1, "addPart with 99999", bom, b -> b.addPart('b', 99999, 1));
            t.due(2, "addPart with 1", bom, b -> b.addPart('b', 1, 1));
            t.due(0.0f, "the cost for 0", bom, b -> b.cost(0, 1));
            t.due(999.99f, "the cost for 99999", bom, b -> b.cost(1, 1));
            t.due(0.01f, "the cost for 1", bom, b -> b.cost(2, 1));
        });
        s.test("`grams`: its own weight in grams, 0 to 99999", t -> {
            BillOfMaterials bom = new BillOfMaterials();
            t.due(0, "addPart with 0", bom, b -> b.addPart('b', 1, 0));
            t.due(1, "addPart with 99999", bom, b -> b.addPart('b', 1, 99999));
            t.due(2, "addPart with 1", bom, b -> b.addPart('b', 1, 1));
            t.due(0.0, "the weight for 0", bom, b -> b.weight(0, 1));
            t.due(99.999, "the weight for 99999", bom, b -> b.weight(1, 1));
            t.due(0.001, "the weight for 1", bom, b -> b.weight(2, 1));
        });
        s.test("Returns the number of the part.", t -> {
            BillOfMaterials bom = new BillOfMaterials();
            for (int part = 0; part < 16; part++) {
                t.due(part, "addPart", bom, b -> b.addPart('m', 0, 0));
            }
        });
        s.test("Throws `IllegalArgumentException` if there is no such kind, or a number is out of range", t -> {
            for (int sign : NO_KINDS) {
                t.refused(ARGUMENT, "the kind " + sign, Fixtures::rich, b -> b.addPart((char) sign, 0, 0));
            }
            t.refused(ARGUMENT, "a wrong kind first", BillOfMaterials::new, b -> b.addPart('x', 0, 0));
            Refusals.outsideOf(t, ARGUMENT, "the price", 0, 99999, (b, cents) -> b.addPart('b', cents, 0));
            Refusals.outsideOf(t, ARGUMENT, "the weight", 0, 99999, (b, grams) -> b.addPart('b', 0, grams));
            t.refused(ARGUMENT, "a wrong kind when full", Fixtures::full, b -> b.addPart('x', 0, 0));
            t.refused(ARGUMENT, "all wrong", Fixtures::full, b -> b.addPart('x', -1, 100000));
        });
        s.test("Throws `IllegalStateException` if there are 16 parts", t -> {
            BillOfMaterials bom = Fixtures.made(15);
            t.due(15, "the last part", bom, b -> b.addPart('b', 5, 6));
            t.due(STATE, "a part too many", bom, b -> b.addPart('b', 0, 0));
            t.due(16, "parts()", bom, b -> b.parts());
            t.due(5, "setPrice(15, 0)", bom, b -> b.setPrice(15, 0));
            t.refused(STATE, "the 17th part", Fixtures::full, b -> b.addPart('b', 0, 0));
            t.refused(STATE, "the 17th part", () -> Fixtures.made(16), b -> b.addPart('p', 99999, 99999));
        });
    }

    private static void setPrice(Sentences s) {
        s.section("Promise 3: setPrice");
        s.test("Changes the own price of a part.", t -> {
            BillOfMaterials bom = Fixtures.chain(1);
            bom.setPrice(1, 250);
            t.due(2.5f, "cost of the part", bom, b -> b.cost(1, 1));
            t.due(6.0f, "cost of its parent", bom, b -> b.cost(0, 1));
            t.due(1.0, "weight of the part", bom, b -> b.weight(1, 1));
        });
        firstAndLastPart(s, (b, part) -> b.setPrice(part, 99999), b -> b.cost(0, 999), b -> b.cost(15, 999), 999.99f);
        s.test("`cents`: the new price in cents, 0 to 99999", t -> {
            BillOfMaterials bom = Fixtures.made(1);
            t.due(100, "setPrice(0, 99999)", bom, b -> b.setPrice(0, 99999));
            t.due(999.99f, "cost(0, 1)", bom, b -> b.cost(0, 1));
            t.due(99999, "setPrice(0, 0)", bom, b -> b.setPrice(0, 0));
            t.due(0.0f, "cost(0, 1)", bom, b -> b.cost(0, 1));
        });
        s.test("Returns the previous price.", t -> {
            BillOfMaterials bom = Fixtures.made(2);
            t.due(100, "the first price", bom, b -> b.setPrice(0, 0));
            t.due(0, "the price 0", bom, b -> b.setPrice(0, 99999));
            t.due(99999, "the price 99999", bom, b -> b.setPrice(0, 99999));
            t.due(99999, "the same price again", bom, b -> b.setPrice(0, 5));
            t.due(100, "the price of another part", bom, b -> b.setPrice(1, 5));
            t.due(ARGUMENT, "a refused price", bom, b -> b.setPrice(0, 100000));
            t.due(5, "the price before the refused one", bom, b -> b.setPrice(0, 6));
        });
        s.test("Throws `IndexOutOfBoundsException` if there is no such part", t -> {
            Refusals.noSuchPart(t, "setPrice", (b, part) -> b.setPrice(part, 1));
            Refusals.noSuchPart(t, "setPrice to -1", (b, part) -> b.setPrice(part, -1));
        });
        s.test("Throws `IllegalArgumentException` if the price is out of range", t -> {
            Refusals.outsideOf(t, ARGUMENT, "setPrice of the first", 0, 99999, (b, cents) -> b.setPrice(0, cents));
            Refusals.outsideOf(t, ARGUMENT, "setPrice of the last", 0, 99999, (b, cents) -> b.setPrice(5, cents));
        });
    }

    private static void setGrams(Sentences s) {
        s.section("Promise 4: setGrams");
        s.test("Changes the own weight of a part.", t -> {
            BillOfMaterials bom = Fixtures.chain(1);
            bom.setGrams(1, 2500);
            t.due(2.5, "weight of the part", bom, b -> b.weight(1, 1));
            t.due(6.0, "weight of its parent", bom, b -> b.weight(0, 1));
            t.due(1.0f, "cost of the part", bom, b -> b.cost(1, 1));
        });
        firstAndLastPart(s, (b, part) -> b.setGrams(part, 99999), b -> b.weight(0, 999), b -> b.weight(15, 999),
                99.999);
        s.test("`grams`: the new weight in grams, 0 to 99999", t -> {
            BillOfMaterials bom = Fixtures.made(1);
            t.due(1000, "setGrams(0, 99999)", bom, b -> b.setGrams(0, 99999));
            t.due(99.999, "weight(0, 1)", bom, b -> b.weight(0, 1));
            t.due(99999, "setGrams(0, 0)", bom, b -> b.setGrams(0, 0));
            t.due(0.0, "weight(0, 1)", bom, b -> b.weight(0, 1));
        });
        s.test("Returns the previous weight.", t -> {
            BillOfMaterials bom = Fixtures.made(2);
            t.due(1000, "the first weight", bom, b -> b.setGrams(0, 0));
            t.due(0, "the weight 0", bom, b -> b.setGrams(0, 99999));
            t.due(99999, "the weight 99999", bom, b -> b.setGrams(0, 99999));
            t.due(99999, "the same weight again", bom, b -> b.setGrams(0, 5));
            t.due(1000, "the weight of another part", bom, b -> b.setGrams(1, 5));
            t.due(ARGUMENT, "a refused weight", bom, b -> b.setGrams(0, 100000));
            t.due(5, "the weight before the refused one", bom, b -> b.setGrams(0, 6));
        });
        s.test("Throws `IndexOutOfBoundsException` if there is no such part", t -> {
            Refusals.noSuchPart(t, "setGrams", (b, part) -> b.setGrams(part, 1));
            Refusals.noSuchPart(t, "setGrams to -1", (b, part) -> b.setGrams(part, -1));
        });
        s.test("Throws `IllegalArgumentException` if the weight is out of range", t -> {
            Refusals.outsideOf(t, ARGUMENT, "setGrams of the first", 0, 99999, (b, grams) -> b.setGrams(0, grams));
            Refusals.outsideOf(t, ARGUMENT, "setGrams of the last", 0, 99999, (b, grams) -> b.setGrams(5, grams));
        });
    }

    private static void setKind(Sentences s) {
        s.section("Promise 5: setKind");
        s.test("Changes the kind of a part.", t -> {
            BillOfMaterials bom = Fixtures.chain(2);
            bom.setKind(1, 'p');
            t.due('p', "kind(1)", bom, b -> b.kind(1));
            t.due('m', "kind(0)", bom, b -> b.kind(0));
            t.due('m', "kind(2)", bom, b -> b.kind(2));
            t.due("6x2", "the list through a phantom", bom, b -> Fixtures.written(b, 0, 1));
            bom.setKind(1, 'b');
            t.due("2x1", "the list when it is bought", bom, b -> Fixtures.written(b, 0, 1));
        });
        firstAndLastPart(s, (b, part) -> b.setKind(part, 'p'), b -> b.kind(0), b -> b.kind(15), 'p');
        s.test("`kind`: 'b', 'm' or 'p'", t -> {
            for (char before : KINDS) {
                for (char after : KINDS) {
                    BillOfMaterials bom = Fixtures.parts("m" + before);
                    t.due(before, "setKind from " + before + " to " + after, bom, b -> b.setKind(1, after));
                    t.due(after, "kind(1)", bom, b -> b.kind(1));
                }
            }
        });
        s.test("Returns the previous kind.", t -> {
            BillOfMaterials bom = Fixtures.parts("pb");
            t.due('p', "the first kind", bom, b -> b.setKind(0, 'b'));
            t.due('b', "the second kind", bom, b -> b.setKind(0, 'b'));
            t.due('b', "the same kind again", bom, b -> b.setKind(0, 'm'));
            t.due('b', "the kind of another part", bom, b -> b.setKind(1, 'm'));
            t.due(ARGUMENT, "a refused kind", bom, b -> b.setKind(0, 'x'));
            t.due('m', "the kind before the refused one", bom, b -> b.setKind(0, 'p'));
        });
        s.test("Throws `IndexOutOfBoundsException` if there is no such part", t -> {
            Refusals.noSuchPart(t, "setKind", (b, part) -> b.setKind(part, 'p'));
            Refusals.noSuchPart(t, "setKind to x", (b, part) -> b.setKind(part, 'x'));
        });
        s.test("Throws `IllegalArgumentException` if there is no such kind", t -> {
            for (int sign : NO_KINDS) {
                t.refused(ARGUMENT, "setKind to " + sign, Fixtures::rich, b -> b.setKind(0, (char) sign));
                t.refused(ARGUMENT, "setKind to " + sign, Fixtures::full, b -> b.setKind(15, (char) sign));
            }
            BillOfMaterials bom = Fixtures.made(1);
            for (int sign = 0; sign < 400; sign++) {
                char kind = (char) sign;
                if (kind != 'b' && kind != 'm' && kind != 'p') {
                    t.due(ARGUMENT, "setKind to the sign " + sign, bom, b -> b.setKind(0, kind));
                }
            }
            t.due('m', "kind(0)", bom, b -> b.kind(0));
        });
    }

    /** A change of the first, and one of the last of 16 parts: each changes its part alone. */
    private static void firstAndLastPart(Sentences s, Refusals.Call change, Sentences.Call first, Sentences.Call last,
            Object changed) {
        s.test("`part`: the part", t -> {
            BillOfMaterials bom = Fixtures.made(16);
            Object before = last.answer(bom);
            change.answer(bom, 0);
            t.due(changed, "the first part", bom, first);
            t.due(before, "the last part when the first is changed", bom, last);
            BillOfMaterials other = Fixtures.made(16);
            change.answer(other, 15);
            t.due(changed, "the last part", other, last);
            t.due(before, "the first part when the last is changed", other, first);
        });
    }

    private static void parts(Sentences s) {
        s.section("Promise 6: parts");
        s.test("Returns the number of parts.", t -> {
            BillOfMaterials bom = new BillOfMaterials();
            t.due(0, "parts() of a new object", bom, b -> b.parts());
            for (int part = 1; part <= 16; part++) {
                bom.addPart("bmp".charAt(part % 3), 1, 1);
                t.due(part, "parts()", bom, b -> b.parts());
                t.due(ARGUMENT, "a refused part", bom, b -> b.addPart('x', 1, 1));
                t.due(part, "parts() after a refused one", bom, b -> b.parts());
            }
            t.due(STATE, "the 17th part", bom, b -> b.addPart('b', 1, 1));
            t.due(16, "parts() when full", bom, b -> b.parts());
        });
    }

    private static void kind(Sentences s) {
        s.section("Promise 7: kind");
        s.test("Returns the kind of a part.", t -> {
            BillOfMaterials bom = Fixtures.parts("pmb");
            t.due('p', "kind(0)", bom, b -> b.kind(0));
            t.due('m', "kind(1)", bom, b -> b.kind(1));
            t.due('b', "kind(2)", bom, b -> b.kind(2));
        });
        s.test("`part`: the part", t -> {
            BillOfMaterials bom = Fixtures.parts("bmmmmmmmmmmmmmmp");
            t.due('b', "the first of 16", bom, b -> b.kind(0));
            t.due('p', "the last of 16", bom, b -> b.kind(15));
            BillOfMaterials one = Fixtures.parts("p");
            t.due('p', "the only one", one, b -> b.kind(0));
        });
        s.test("Returns 'b', 'm' or 'p'.", t -> {
            BillOfMaterials bom = Fixtures.parts("b");
            for (char kind : "mpbpmbb".toCharArray()) {
                bom.setKind(0, kind);
                t.due(kind, "kind(0)", bom, b -> b.kind(0));
            }
        });
        s.test("Throws `IndexOutOfBoundsException` if there is no such part",
                t -> Refusals.noSuchPart(t, "kind", (b, part) -> b.kind(part)));
    }
}
