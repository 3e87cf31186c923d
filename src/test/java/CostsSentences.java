import java.util.function.Supplier;

/** The sentences of the promises 27 to 35, each with its boundary cases. */
final class CostsSentences {
    private static final Class<?> ARGUMENT = Sentences.ARGUMENT;
    private static final Class<?> ELEMENT = Sentences.ELEMENT;

    private CostsSentences() {
    }

    static void all(Sentences s) {
        s.section("Promise 27: cost");
        cost(s, "Returns the cost of a part, computed part by part, each part after all its children.",
                BillOfMaterials::cost);
        s.section("Promise 28: costByWalking");
        cost(s, "Returns the same cost, by walking through every chain.", BillOfMaterials::costByWalking);
        costBits(s);
        costCents(s);
        dearest(s);
        weight(s);
        weightBits(s);
        markCosts(s);
        costChange(s);
    }

    // ---- the arithmetic

    /** Each quantity, many scrap rates and prices: another order of the operations rounds some of them otherwise. */
    static void floatArithmetic(Sentences t) {
        for (int quantity = 1; quantity <= 20; quantity++) {
            for (int scrap = 0; scrap <= 50; scrap += 5) {
                BillOfMaterials bom = new BillOfMaterials();
                bom.addPart('m', 12345, 0);
                bom.addPart('b', 0, 0);
                bom.addLine(0, 1, 1, quantity, 1, 999);
                bom.setScrap(0, scrap);
                for (int cents : new int[] {0, 1, 13, 17, 26, 33, 34, 99, 333, 1999, 16777, 54321, 99998, 99999}) {
                    bom.setPrice(1, cents);
                    float want = 12345.0f / 100.0f
                            + (float) quantity * (float) (100 + scrap) / 100.0f * ((float) cents / 100.0f);
                    String what = quantity + " of " + cents + " cents with the scrap rate " + scrap;
                    t.due(want, "cost of " + what, bom, b -> b.cost(0, 1));
                    t.due(want, "costByWalking of " + what, bom, b -> b.costByWalking(0, 1));
                }
            }
        }
        orderOfPositions(t);
        float want = 999.99f;
        for (int level = 0; level < 4; level++) {
            float sum = 999.99f;
            for (int position = 0; position < 6; position++) {
                sum += 20.0f * 150.0f / 100.0f * want;
            }
            want = sum;
        }
        t.due(want, "the greatest cost", TermsSentences.broadest(), b -> b.cost(0, 1));
        t.due(0.0f, "the least cost", free(), b -> b.cost(0, 1));
    }

    private static BillOfMaterials free() {
        BillOfMaterials bom = new BillOfMaterials();
        bom.addPart('b', 0, 0);
        return bom;
    }

    /** The great amount comes last: where it came earlier, the small ones would be lost behind it. */
    private static void orderOfPositions(Sentences t) {
        BillOfMaterials bom = Fixtures.parts("mmbb");
        bom.setPrice(0, 1);
        bom.setPrice(1, 99999);
        bom.setPrice(2, 99999);
        bom.setPrice(3, 1);
        bom.setGrams(0, 1);
        bom.setGrams(1, 99999);
        bom.setGrams(2, 99999);
        bom.setGrams(3, 1);
        for (int position = 1; position <= 6; position++) {
            bom.addLine(1, position, 2, 19, 1, 999);
        }
        bom.addLine(0, 6, 1, 20, 1, 999);
        for (int position = 5; position >= 1; position--) {
            bom.addLine(0, position, 3, position, 1, 999);
        }
        float child = 999.99f;
        double childWeight = 99.999;
        for (int i = 0; i < 6; i++) {
            child += 19.0f * 100.0f / 100.0f * 999.99f;
            childWeight += 19.0 * 99.999;
        }
        float sum = 0.01f;
        double weight = 0.001;
        for (int position = 1; position <= 5; position++) {
            sum += (float) position * 100.0f / 100.0f * 0.01f;
            weight += (double) position * 0.001;
        }
        float wantCost = sum + 20.0f * 100.0f / 100.0f * child;
        double wantWeight = weight + 20.0 * childWeight;
        t.due(wantCost, "cost in the order of positions", bom, b -> b.cost(0, 1));
        t.due(wantCost, "costByWalking in the order of positions", bom, b -> b.costByWalking(0, 1));
        t.due(wantWeight, "weight in the order of positions", bom, b -> b.weight(0, 1));
    }

    static void doubleArithmetic(Sentences t) {
        for (int quantity = 1; quantity <= 20; quantity++) {
            BillOfMaterials bom = new BillOfMaterials();
            bom.addPart('m', 0, 12345);
            bom.addPart('b', 0, 0);
            bom.addLine(0, 1, 1, quantity, 1, 999);
            bom.setScrap(0, 50);
            for (int grams = 1; grams <= 99999; grams = 2 * grams + quantity) {
                bom.setGrams(1, grams);
                t.due(12345.0 / 1000.0 + (double) quantity * ((double) grams / 1000.0),
                        "weight of " + quantity + " of " + grams + " grams", bom, b -> b.weight(0, 1));
            }
            bom.setGrams(1, 0);
            t.due(12.345, "weight with a part of no weight", bom, b -> b.weight(0, 1));
        }
        orderOfPositions(t);
        double want = 99.999;
        for (int level = 0; level < 4; level++) {
            double sum = 99.999;
            for (int position = 0; position < 6; position++) {
                sum += 20.0 * want;
            }
            want = sum;
        }
        t.due(want, "the greatest weight", TermsSentences.broadest(), b -> b.weight(0, 1));
        t.due(Double.doubleToLongBits(want), "its bits", TermsSentences.broadest(), b -> b.weightBits(0, 1));
    }

    // ---- promises 27 to 30

    private static void cost(Sentences s, String description, EdgeSentences.Call cost) {
        s.test(description, t -> {
            BillOfMaterials bom = Fixtures.made(6);
            bom.addLine(5, 1, 0, 2, 1, 999);
            bom.addLine(0, 1, 3, 3, 1, 999);
            bom.addLine(3, 1, 1, 4, 1, 999);
            bom.addLine(1, 1, 4, 5, 1, 999);
            bom.addLine(5, 2, 4, 7, 1, 999);
            bom.addLine(5, 3, 1, 11, 1, 999);
            float[] want = {1 + 3 * (1 + 4 * 6), 6, 1, 1 + 4 * 6, 1, 1 + 2 * 76 + 7 + 11 * 6};
            for (int part = 0; part < 6; part++) {
                int asked = part;
                t.due(want[part], "the part " + part, bom, b -> cost.answer(b, asked, 1));
            }
        });
        EdgeSentences.partAndSerial(s, cost, 17.0f, 1.0f, 133.0f, 171.0f, 16.0f, 289.0f);
        s.test("Returns the cost.", t -> {
            BillOfMaterials bom = Fixtures.parts("mb");
            bom.setPrice(0, 0);
            t.due(0.0f, "no price and no lines", bom, b -> cost.answer(b, 0, 1));
            bom.addLine(0, 1, 1, 20, 1, 999);
            bom.setPrice(1, 0);
            t.due(0.0f, "no price and a line", bom, b -> cost.answer(b, 0, 1));
            bom.setPrice(1, 99999);
            bom.setScrap(0, 50);
            t.due(20.0f * 150.0f / 100.0f * 999.99f, "the greatest amount of one line", bom,
                    b -> cost.answer(b, 0, 1));
            float want = 999.99f;
            for (int level = 0; level < 4; level++) {
                float sum = 999.99f;
                for (int position = 0; position < 6; position++) {
                    sum += 20.0f * 150.0f / 100.0f * want;
                }
                want = sum;
            }
            t.due(want, "the greatest cost", TermsSentences.broadest(), b -> cost.answer(b, 0, 999));
        });
    }

    private static void costBits(Sentences s) {
        s.section("Promise 29: costBits");
        s.test("Returns the bits of the cost of a part, as by Float.floatToIntBits.", t -> {
            for (int from = 0; from <= 99999; from += 250) {
                BillOfMaterials bom = Fixtures.made(1);
                for (int cents = from; cents < from + 250 && cents <= 99999; cents++) {
                    bom.setPrice(0, cents);
                    t.due(Float.floatToIntBits(cents / 100.0f), "costBits of " + cents + " cents", bom,
                            b -> b.costBits(0, 1));
                }
            }
        });
        EdgeSentences.partAndSerial(s, (b, part, serial) -> b.costBits(part, serial), bits(17), bits(1), bits(133),
                bits(171), bits(16), bits(289));
        s.test("Returns the bits.", t -> {
            BillOfMaterials bom = TermsSentences.broadest();
            for (int part = 0; part < 5; part++) {
                int asked = part;
                t.due(Float.floatToIntBits(bom.cost(part, 1)), "the bits of a great cost", bom,
                        b -> b.costBits(asked, 1));
            }
            t.due(bits(0), "the bits of 0", free(), b -> b.costBits(0, 1));
        });
    }

    private static int bits(float number) {
        return Float.floatToIntBits(number);
    }

    private static void costCents(Sentences s) {
        s.section("Promise 30: costCents");
        s.test("Returns the cost of a part in cents: the cost times 100.0f, in float arithmetic, converted to int by a "
                + "cast, which yields the greatest int if the value is too great.", t -> {
            for (int from = 0; from <= 99999; from += 1250) {
                BillOfMaterials bom = Fixtures.made(1);
                for (int cents = from; cents < from + 250; cents++) {
                    bom.setPrice(0, cents);
                    t.due((int) ((float) cents / 100.0f * 100.0f), "costCents of " + cents + " cents", bom,
                            b -> b.costCents(0, 1));
                }
            }
            t.due(2147483392, "the last cost that isn't too great", aroundGreatestInt(11400), b -> b.costCents(0, 1));
            t.due(21474834.0f, "that cost", aroundGreatestInt(11400), b -> b.cost(0, 1));
            t.due(Integer.MAX_VALUE, "the first cost that is too great", aroundGreatestInt(11600),
                    b -> b.costCents(0, 1));
            t.due(21474836.0f, "that cost", aroundGreatestInt(11600), b -> b.cost(0, 1));
            t.due(Integer.MAX_VALUE, "the greatest cost", TermsSentences.broadest(), b -> b.costCents(0, 1));
        });
        EdgeSentences.partAndSerial(s, (b, part, serial) -> b.costCents(part, serial),
                1700, 100, 13300, 17100, 1600, 28900);
        s.test("Returns the number of cents.", t -> {
            BillOfMaterials bom = Fixtures.parts("mb");
            bom.setPrice(0, 0);
            t.due(0, "of no cost", bom, b -> b.costCents(0, 1));
            bom.setPrice(1, 1);
            bom.addLine(0, 1, 1, 1, 1, 999);
            bom.setScrap(0, 50);
            t.due(1, "a part of a cent is cut off", bom, b -> b.costCents(0, 1));
            bom.setScrap(0, 49);
            t.due(1, "less than half of a cent too", bom, b -> b.costCents(0, 1));
            bom.setPrice(1, 99999);
            t.due((int) (1.0f * 149.0f / 100.0f * 999.99f * 100.0f), "of a greater cost", bom,
                    b -> b.costCents(0, 1));
        });
    }

    /** The part 0 costs 21474720 and the given own price. */
    private static BillOfMaterials aroundGreatestInt(int ownCents) {
        BillOfMaterials bom = new BillOfMaterials();
        bom.addPart('m', ownCents, 0);
        bom.addPart('m', 14400, 0);
        bom.addPart('b', 66200, 0);
        for (int line = 0; line < 12; line++) {
            bom.addLine(line / 6, line % 6 + 1, line / 6 + 1, 20, 1, 999);
            bom.setScrap(line, 50);
        }
        return bom;
    }

    // ---- promise 31

    private static void dearest(Sentences s) {
        s.section("Promise 31: dearest");
        s.test("Returns the line of a part for which what is added to the cost of the part, before the addition, is "
                + "the greatest.", t -> {
            BillOfMaterials bom = twoLines(100, 1, 21, 3, 7);
            t.due(0, "equal but for the last bit", bom, b -> b.dearest(0, 1));
            bom.setPrice(0, 99999);
            t.due(0, "a difference that the addition loses", bom, b -> b.dearest(0, 1));
            BillOfMaterials equal = twoLines(100, 1, 25, 3, 10);
            equal.setScrap(1, 20);
            t.due(1, "a difference that float arithmetic loses", equal, b -> b.dearest(0, 1));
            equal.setScrap(0, 1);
            t.due(0, "the scrap rate decides", equal, b -> b.dearest(0, 1));
            equal.setScrap(1, 50);
            t.due(1, "the other scrap rate decides", equal, b -> b.dearest(0, 1));
            equal.setPrice(2, 99999);
            t.due(0, "the price decides", equal, b -> b.dearest(0, 1));
            BillOfMaterials deep = Fixtures.chain(3);
            deep.addPart('b', 1600, 0);
            deep.addLine(0, 2, 4, 3, 1, 999);
            t.due(3, "a price against the costs below", deep, b -> b.dearest(0, 1));
            deep.setPrice(3, 200);
            t.due(0, "the costs below, if greater", deep, b -> b.dearest(0, 1));
        });
        EdgeSentences.partAndSerial(s, (b, part, serial) -> b.dearest(part, serial), 0, ELEMENT, 2, 4, ELEMENT, 5);
        s.test("Returns the number of the line, of several lines that of the one with the lowest position.", t -> {
            BillOfMaterials bom = Fixtures.made(2);
            for (int position = 6; position >= 1; position--) {
                bom.addLine(0, position, 1, 3, 1, 100 * position);
                t.due(6 - position, "the lowest of " + (7 - position), bom, b -> b.dearest(0, 1));
            }
            for (int position = 1; position <= 6; position++) {
                int last = 100 * position;
                int line = 6 - position;
                t.due(line, "the lowest that holds for " + last, bom, b -> b.dearest(0, last));
            }
            bom.setPrice(1, 0);
            t.due(5, "the lowest when nothing costs anything", bom, b -> b.dearest(0, 1));
            bom.setScrap(0, 50);
            t.due(5, "scrap of nothing", bom, b -> b.dearest(0, 1));
            bom.setPrice(1, 1);
            t.due(0, "the one with scrap, at the last position", bom, b -> b.dearest(0, 1));
            BillOfMaterials full = Fixtures.lines(40);
            t.due(39, "the last of 40 lines", full, b -> b.dearest(6, 2));
        });
        s.test("Throws `IllegalArgumentException` if the serial number is out of range",
                t -> Refusals.serialOutOfRange(t, "a part without lines", (b, serial) -> b.dearest(4, serial)));
        s.test("Throws `NoSuchElementException` if the part has no lines", t -> {
            Supplier<BillOfMaterials> made = () -> {
                BillOfMaterials bom = Fixtures.made(4);
                bom.addLine(0, 1, 1, 1, 10, 20);
                bom.addVariant(2, 6, 3, 1, 3, 7);
                bom.setChoice(3, 3);
                return bom;
            };
            t.refused(ELEMENT, "a part without lines", made, b -> b.dearest(1, 1));
            t.refused(ELEMENT, "just before its line", made, b -> b.dearest(0, 9));
            t.refused(ELEMENT, "just behind its line", made, b -> b.dearest(0, 21));
            t.refused(ELEMENT, "a variant that doesn't hold", made, b -> b.dearest(2, 1));
            t.due(0, "the first number", made.get(), b -> b.dearest(0, 10));
            t.due(0, "the last number", made.get(), b -> b.dearest(0, 20));
            t.refused(ELEMENT, "the last part when full", Fixtures::full, b -> b.dearest(15, 1));
            BillOfMaterials bom = made.get();
            bom.setChoice(3, 2);
            t.due(1, "a variant that holds", bom, b -> b.dearest(2, 1));
        });
    }

    /** The part 0 with a line of the part 2 at the position 2 added first, then one of the part 1 at the position 1. */
    private static BillOfMaterials twoLines(int own, int quantity, int cents, int otherQuantity, int otherCents) {
        BillOfMaterials bom = new BillOfMaterials();
        bom.addPart('m', own, 0);
        bom.addPart('b', cents, 0);
        bom.addPart('b', otherCents, 0);
        bom.addLine(0, 2, 2, otherQuantity, 1, 999);
        bom.addLine(0, 1, 1, quantity, 1, 999);
        return bom;
    }

    // ---- promises 32 and 33

    private static void weight(Sentences s) {
        s.section("Promise 32: weight");
        s.test("Returns the weight of a part.", t -> {
            BillOfMaterials bom = Fixtures.chain(4);
            double[] want = {153, 76, 25, 6, 1};
            for (int part = 0; part < 5; part++) {
                int asked = part;
                t.due(want[part], "weight(" + part + ", 1)", bom, b -> b.weight(asked, 1));
            }
            bom.setScrap(3, 50);
            t.due(153.0, "weight with scrap", bom, b -> b.weight(0, 1));
            bom.setPrice(4, 99999);
            t.due(153.0, "weight with another price", bom, b -> b.weight(0, 1));
            bom.addVariant(0, 2, 4, 20, 2, 2);
            t.due(153.0, "weight with a variant that doesn't hold", bom, b -> b.weight(0, 1));
            bom.setChoice(2, 1);
            t.due(173.0, "weight with a variant that holds", bom, b -> b.weight(0, 1));
            BillOfMaterials upwards = Fixtures.made(5);
            for (int part = 4; part > 0; part--) {
                upwards.addLine(part, 6, part - 1, 20, 1, 999);
            }
            t.due(168421.0, "weight of a part behind its children", upwards, b -> b.weight(4, 1));
        });
        EdgeSentences.partAndSerial(s, (b, part, serial) -> b.weight(part, serial),
                17.0, 1.0, 133.0, 171.0, 16.0, 289.0);
        s.test("Returns the weight.", CostsSentences::doubleArithmetic);
    }

    private static void weightBits(Sentences s) {
        s.section("Promise 33: weightBits");
        s.test("Returns the bits of the weight of a part, as by Double.doubleToLongBits.", t -> {
            for (int from = 0; from <= 99999; from += 250) {
                BillOfMaterials bom = Fixtures.made(1);
                for (int grams = from; grams < from + 250 && grams <= 99999; grams++) {
                    bom.setGrams(0, grams);
                    t.due(Double.doubleToLongBits(grams / 1000.0), "weightBits of " + grams + " grams", bom,
                            b -> b.weightBits(0, 1));
                }
            }
        });
        EdgeSentences.partAndSerial(s, (b, part, serial) -> b.weightBits(part, serial), longBits(17), longBits(1),
                longBits(133), longBits(171), longBits(16), longBits(289));
        s.test("Returns the bits.", t -> {
            BillOfMaterials bom = TermsSentences.broadest();
            for (int part = 0; part < 5; part++) {
                int asked = part;
                t.due(Double.doubleToLongBits(bom.weight(part, 1)), "the bits of a great weight", bom,
                        b -> b.weightBits(asked, 1));
            }
            t.due(0L, "the bits of 0", free(), b -> b.weightBits(0, 1));
        });
    }

    private static long longBits(double number) {
        return Double.doubleToLongBits(number);
    }

    // ---- promises 34 and 35

    private static void markCosts(Sentences s) {
        s.section("Promise 34: markCosts");
        s.test("Marks the costs of all parts that there are now, for a serial number and the present configuration; "
                + "they replace those that were marked before.", t -> {
            BillOfMaterials bom = Fixtures.made(2);
            bom.addVariant(0, 1, 1, 4, 1, 2);
            bom.addLine(0, 2, 1, 8, 500, 999);
            bom.markCosts(499);
            t.due(0.0f, "costChange for the same number", bom, b -> b.costChange(0, 499));
            t.due(8.0f, "costChange for another number", bom, b -> b.costChange(0, 500));
            bom.markCosts(500);
            t.due(-8.0f, "costChange against the new mark", bom, b -> b.costChange(0, 499));
            bom.setChoice(1, 1);
            t.due(-4.0f, "costChange by a choice", bom, b -> b.costChange(0, 499));
            bom.markCosts(499);
            t.due(8.0f, "costChange against the mark with the choice", bom, b -> b.costChange(0, 500));
            bom.setPrice(1, 0);
            bom.addPart('b', 5, 0);
            t.due(-1.0f, "costChange of a child by its price", bom, b -> b.costChange(1, 1));
            t.due(ELEMENT, "costChange of a part that there wasn't", bom, b -> b.costChange(2, 1));
            bom.markCosts(1);
            t.due(0.0f, "costChange of a child with a new mark", bom, b -> b.costChange(1, 1));
            t.due(0.0f, "costChange of the new part", bom, b -> b.costChange(2, 1));
        });
        s.test("`serial`: the serial number, 1 to 999", t -> {
            float[] want = {17, 1, 1, 1, 133};
            int[] serials = {1, 2, 500, 998, 999};
            for (int i = 0; i < 5; i++) {
                int serial = serials[i];
                BillOfMaterials bom = Fixtures.edges();
                t.due(16, "markCosts(" + serial + ")", bom, b -> b.markCosts(serial));
                t.due(1.0f - want[i], "costChange(0, 500)", bom, b -> b.costChange(0, 500));
            }
        });
        s.test("Returns the number of parts whose costs are marked.", t -> {
            BillOfMaterials bom = new BillOfMaterials();
            for (int parts = 0; parts <= 16; parts++) {
                t.due(parts, "markCosts with " + parts + " parts", bom, b -> b.markCosts(1));
                t.due(parts, "markCosts again", bom, b -> b.markCosts(999));
                Check.answerOf(() -> bom.addPart('p', 0, 0));
            }
            t.due(16, "markCosts when full", bom, b -> b.markCosts(999));
        });
        s.test("Throws `IllegalArgumentException` if the serial number is out of range", t -> {
            Refusals.serialOutOfRange(t, "markCosts", (b, serial) -> b.markCosts(serial));
            for (int serial : new int[] {0, 1000, -1}) {
                t.refused(ARGUMENT, "markCosts of no part", BillOfMaterials::new, b -> b.markCosts(serial));
                t.refused(ARGUMENT, "the first mark", () -> Fixtures.made(3), b -> b.markCosts(serial));
            }
        });
    }

    private static void costChange(Sentences s) {
        s.section("Promise 35: costChange");
        s.test("Returns by how much the cost of a part has changed: its cost minus its marked cost, in float "
                + "arithmetic.", t -> {
            BillOfMaterials bom = Fixtures.parts("mb");
            bom.addLine(0, 1, 1, 7, 1, 999);
            bom.setPrice(1, 333);
            bom.setScrap(0, 13);
            float before = 1.0f + 7.0f * 113.0f / 100.0f * 3.33f;
            bom.markCosts(1);
            t.due(0.0f, "no change", bom, b -> b.costChange(0, 1));
            bom.setPrice(1, 99999);
            float after = 1.0f + 7.0f * 113.0f / 100.0f * 999.99f;
            t.due(after - before, "a greater price", bom, b -> b.costChange(0, 1));
            t.due(999.99f - 3.33f, "the price itself", bom, b -> b.costChange(1, 999));
            bom.setPrice(1, 0);
            t.due(1.0f - before, "no price", bom, b -> b.costChange(0, 1));
            t.due(-3.33f, "no price itself", bom, b -> b.costChange(1, 1));
            bom.setPrice(1, 333);
            t.due(0.0f, "the old price again", bom, b -> b.costChange(0, 1));
            BillOfMaterials greatest = TermsSentences.broadest();
            greatest.markCosts(1);
            float cost = greatest.cost(0, 1);
            greatest.endBefore(0, 999);
            t.due(greatest.cost(0, 999) - cost, "a change of the greatest cost", greatest, b -> b.costChange(0, 999));
            t.due(0.0f, "none of it for another number", greatest, b -> b.costChange(0, 998));
        });
        EdgeSentences.partAndSerial(s, (b, part, serial) -> b.costChange(part, serial),
                16.0f, 0.0f, 132.0f, 155.0f, 0.0f, 273.0f);
        s.test("Returns the difference.", t -> {
            BillOfMaterials bom = Fixtures.made(1);
            bom.setPrice(0, 0);
            bom.markCosts(1);
            t.due(0.0f, "of 0 and 0", bom, b -> b.costChange(0, 1));
            bom.setPrice(0, 99999);
            t.due(999.99f, "of the greatest price and 0", bom, b -> b.costChange(0, 1));
            bom.markCosts(1);
            bom.setPrice(0, 0);
            t.due(-999.99f, "of 0 and the greatest price", bom, b -> b.costChange(0, 1));
        });
        s.test("Throws `NoSuchElementException` if no cost of this part is marked", t -> {
            t.refused(ELEMENT, "before the first mark", () -> Fixtures.made(1), b -> b.costChange(0, 1));
            t.refused(ELEMENT, "before the first mark of 16", () -> Fixtures.made(16), b -> b.costChange(15, 999));
            t.refused(ELEMENT, "a part added after the mark", Fixtures::rich, b -> b.costChange(5, 1));
            t.refused(ELEMENT, "a mark without parts", () -> {
                BillOfMaterials bom = new BillOfMaterials();
                bom.markCosts(1);
                bom.addPart('b', 0, 0);
                return bom;
            }, b -> b.costChange(0, 1));
            BillOfMaterials bom = Fixtures.rich();
            t.due(true, "the last part that was marked", bom, b -> b.costChange(4, 1) == 0.0f);
            t.due(ARGUMENT, "a refused mark", bom, b -> b.markCosts(0));
            t.due(ELEMENT, "the first part that wasn't", bom, b -> b.costChange(5, 1));
            bom.markCosts(1);
            t.due(0.0f, "the same part with a new mark", bom, b -> b.costChange(5, 1));
        });
    }
}
