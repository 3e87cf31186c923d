import java.util.NoSuchElementException;

/** Promises 27 to 35. */
public final class CostsTest {
    private static final Class<?> INDEX = IndexOutOfBoundsException.class;
    private static final Class<?> ARGUMENT = IllegalArgumentException.class;
    private static final Class<?> ELEMENT = NoSuchElementException.class;
    private static final Check CHECK = new Check("CostsTest");

    public static void main(String[] args) {
        costs();
        orderOfAdditions();
        greatestCost();
        costRefusals();
        dearest();
        weights();
        weightRefusals();
        marks();
        sixteenParts();
        bits();
        CHECK.finish();
    }

    private static void costs() {
        BillOfMaterials bom = new BillOfMaterials();
        bom.addPart('m', 1050, 0);
        bom.addPart('p', 7, 0);
        bom.addPart('b', 333, 0);
        bom.addLine(0, 4, 2, 3, 1, 500);
        bom.addLine(0, 2, 1, 2, 1, 999);
        bom.addVariant(1, 1, 2, 5, 0, 2);
        bom.setScrap(0, 13);
        bom.setScrap(1, 50);
        float child = 333 / 100.0f;
        float phantom = 7 / 100.0f;
        float plain = 1050 / 100.0f;
        float withPhantom = plain + 2.0f * 150.0f / 100.0f * phantom;
        float withBoth = withPhantom + 3.0f * 113.0f / 100.0f * child;
        CHECK.due(child, "cost of a bought part", () -> bom.cost(2, 1));
        CHECK.due(phantom, "cost of a phantom", () -> bom.cost(1, 1));
        CHECK.due(withBoth, "cost(0, 500)", () -> bom.cost(0, 500));
        CHECK.due(withPhantom, "cost(0, 501)", () -> bom.cost(0, 501));
        CHECK.due(withBoth, "costByWalking(0, 500)", () -> bom.costByWalking(0, 500));
        CHECK.due(withPhantom, "costByWalking(0, 501)", () -> bom.costByWalking(0, 501));
        CHECK.due(Float.floatToIntBits(withBoth), "costBits(0, 500)", () -> bom.costBits(0, 500));
        CHECK.due((int) (withBoth * 100.0f), "costCents(0, 500)", () -> bom.costCents(0, 500));
        bom.setChoice(0, 1);
        float fullPhantom = phantom + 5.0f * 100.0f / 100.0f * child;
        float full = plain + 2.0f * 150.0f / 100.0f * fullPhantom + 3.0f * 113.0f / 100.0f * child;
        CHECK.due(full, "cost(0, 1) with a variant", () -> bom.cost(0, 1));
        CHECK.due(full, "costByWalking(0, 1) with a variant", () -> bom.costByWalking(0, 1));
        bom.setKind(1, 'b');
        CHECK.due(full, "cost when the phantom is bought", () -> bom.cost(0, 1));
    }

    /** Small amounts are lost behind a great one, so the order of positions shows in the sum. */
    private static void orderOfAdditions() {
        BillOfMaterials bom = new BillOfMaterials();
        bom.addPart('m', 1, 1);
        bom.addPart('m', 99999, 99999);
        bom.addPart('b', 99999, 99999);
        bom.addPart('b', 1, 1);
        for (int position = 1; position <= 6; position++) {
            bom.addLine(1, position, 2, 19, 1, 999);
        }
        bom.addLine(0, 6, 1, 20, 1, 999);
        for (int position = 5; position >= 1; position--) {
            bom.addLine(0, position, 3, 1, 1, 999);
        }
        float great = 999.99f;
        double greatWeight = 99.999;
        for (int i = 0; i < 6; i++) {
            great += 19.0f * 100.0f / 100.0f * 999.99f;
            greatWeight += 19.0 * 99.999;
        }
        float sum = 0.01f;
        double weightSum = 0.001;
        for (int i = 0; i < 5; i++) {
            sum += 1.0f * 100.0f / 100.0f * 0.01f;
            weightSum += 1.0 * 0.001;
        }
        float want = sum + 20.0f * 100.0f / 100.0f * great;
        double wantWeight = weightSum + 20.0 * greatWeight;
        CHECK.due(want, "cost in the order of positions", () -> bom.cost(0, 1));
        CHECK.due(want, "costByWalking in the order of positions", () -> bom.costByWalking(0, 1));
        CHECK.due(wantWeight, "weight in the order of positions", () -> bom.weight(0, 1));
    }

    private static BillOfMaterials greatest() {
        BillOfMaterials bom = new BillOfMaterials();
        for (int part = 0; part < 5; part++) {
            bom.addPart('m', 99999, 99999);
        }
        for (int line = 0; line < 24; line++) {
            bom.addLine(line / 6, line % 6 + 1, line / 6 + 1, 20, 1, 999);
            bom.setScrap(line, 50);
        }
        return bom;
    }

    private static void greatestCost() {
        BillOfMaterials bom = greatest();
        float want = 999.99f;
        double wantWeight = 99.999;
        for (int level = 0; level < 4; level++) {
            float sum = 999.99f;
            double weightSum = 99.999;
            for (int position = 0; position < 6; position++) {
                sum += 20.0f * 150.0f / 100.0f * want;
                weightSum += 20.0 * wantWeight;
            }
            want = sum;
            wantWeight = weightSum;
        }
        float wantCost = want;
        double wantGreat = wantWeight;
        CHECK.due(wantCost, "the greatest cost", () -> bom.cost(0, 1));
        CHECK.due(wantCost, "the greatest cost by walking", () -> bom.costByWalking(0, 1));
        CHECK.due(Float.floatToIntBits(wantCost), "its bits", () -> bom.costBits(0, 1));
        CHECK.due(Integer.MAX_VALUE, "its cents", () -> bom.costCents(0, 1));
        CHECK.due(wantGreat, "the greatest weight", () -> bom.weight(0, 1));
        CHECK.due(Double.doubleToLongBits(wantGreat), "its bits", () -> bom.weightBits(0, 1));
    }

    private static void costRefusals() {
        BillOfMaterials bom = greatest();
        CHECK.due(INDEX, "cost(5, 1)", () -> bom.cost(5, 1));
        CHECK.due(INDEX, "cost(-1, 0)", () -> bom.cost(-1, 0));
        CHECK.due(ARGUMENT, "cost(0, 0)", () -> bom.cost(0, 0));
        CHECK.due(ARGUMENT, "cost(0, 1000)", () -> bom.cost(0, 1000));
        CHECK.due(INDEX, "costByWalking(5, 1)", () -> bom.costByWalking(5, 1));
        CHECK.due(INDEX, "costByWalking(-1, 0)", () -> bom.costByWalking(-1, 0));
        CHECK.due(ARGUMENT, "costByWalking(0, 0)", () -> bom.costByWalking(0, 0));
        CHECK.due(ARGUMENT, "costByWalking(0, 1000)", () -> bom.costByWalking(0, 1000));
        CHECK.due(INDEX, "costBits(5, 1)", () -> bom.costBits(5, 1));
        CHECK.due(INDEX, "costBits(-1, 0)", () -> bom.costBits(-1, 0));
        CHECK.due(ARGUMENT, "costBits(0, 0)", () -> bom.costBits(0, 0));
        CHECK.due(ARGUMENT, "costBits(0, 1000)", () -> bom.costBits(0, 1000));
        CHECK.due(INDEX, "costCents(5, 1)", () -> bom.costCents(5, 1));
        CHECK.due(INDEX, "costCents(-1, 0)", () -> bom.costCents(-1, 0));
        CHECK.due(ARGUMENT, "costCents(0, 0)", () -> bom.costCents(0, 0));
        CHECK.due(ARGUMENT, "costCents(0, 1000)", () -> bom.costCents(0, 1000));
    }

    private static void dearest() {
        BillOfMaterials bom = new BillOfMaterials();
        bom.addPart('m', 0, 0);
        bom.addPart('b', 200, 0);
        bom.addPart('b', 100, 0);
        bom.addPart('b', 0, 0);
        CHECK.due(ELEMENT, "dearest without lines", () -> bom.dearest(0, 1));
        bom.addLine(0, 5, 2, 4, 1, 999);
        bom.addLine(0, 3, 1, 2, 1, 500);
        bom.addLine(0, 1, 3, 20, 1, 999);
        CHECK.due(1, "dearest of two that are equal", () -> bom.dearest(0, 500));
        CHECK.due(0, "dearest when the other has ended", () -> bom.dearest(0, 501));
        bom.setScrap(0, 1);
        CHECK.due(0, "dearest by its scrap rate", () -> bom.dearest(0, 500));
        bom.setScrap(1, 2);
        CHECK.due(1, "dearest by its greater scrap rate", () -> bom.dearest(0, 500));
        bom.setPrice(1, 0);
        bom.setPrice(2, 0);
        CHECK.due(2, "dearest when nothing costs anything", () -> bom.dearest(0, 500));
        bom.addVariant(3, 2, 1, 1, 1, 8);
        CHECK.due(ELEMENT, "dearest when no line holds", () -> bom.dearest(3, 1));
        bom.setChoice(1, 3);
        CHECK.due(3, "dearest of a single line", () -> bom.dearest(3, 1));
        bom.addLine(3, 6, 2, 1, 1, 999);
        bom.setPrice(2, 1);
        CHECK.due(4, "dearest at the last position", () -> bom.dearest(3, 1));
        CHECK.due(ELEMENT, "dearest of a bought part", () -> bom.dearest(1, 1));
        CHECK.due(INDEX, "dearest(4, 1)", () -> bom.dearest(4, 1));
        CHECK.due(INDEX, "dearest(-1, 0)", () -> bom.dearest(-1, 0));
        CHECK.due(ARGUMENT, "dearest(1, 0)", () -> bom.dearest(1, 0));
        CHECK.due(ARGUMENT, "dearest(0, 1000)", () -> bom.dearest(0, 1000));
    }

    private static void weights() {
        BillOfMaterials bom = new BillOfMaterials();
        bom.addPart('m', 0, 1500);
        bom.addPart('p', 0, 7);
        bom.addPart('b', 0, 333);
        bom.addLine(0, 4, 2, 3, 1, 500);
        bom.addLine(0, 2, 1, 2, 1, 999);
        bom.addVariant(1, 1, 2, 5, 0, 2);
        bom.setScrap(0, 50);
        double withPhantom = 1500 / 1000.0 + 2.0 * (7 / 1000.0);
        double withBoth = withPhantom + 3.0 * (333 / 1000.0);
        CHECK.due(0.333, "weight of a bought part", () -> bom.weight(2, 1));
        CHECK.due(withBoth, "weight(0, 500)", () -> bom.weight(0, 500));
        CHECK.due(withPhantom, "weight(0, 501)", () -> bom.weight(0, 501));
        CHECK.due(Double.doubleToLongBits(withBoth), "weightBits(0, 500)", () -> bom.weightBits(0, 500));
        bom.setChoice(0, 1);
        double full = 1.5 + 2.0 * (0.007 + 5.0 * 0.333) + 3.0 * 0.333;
        CHECK.due(full, "weight(0, 1) with a variant", () -> bom.weight(0, 1));
        CHECK.due(Double.doubleToLongBits(full), "weightBits(0, 1) with a variant", () -> bom.weightBits(0, 1));
    }

    private static void weightRefusals() {
        BillOfMaterials bom = greatest();
        CHECK.due(INDEX, "weight(5, 1)", () -> bom.weight(5, 1));
        CHECK.due(INDEX, "weight(-1, 0)", () -> bom.weight(-1, 0));
        CHECK.due(ARGUMENT, "weight(0, 0)", () -> bom.weight(0, 0));
        CHECK.due(ARGUMENT, "weight(0, 1000)", () -> bom.weight(0, 1000));
        CHECK.due(INDEX, "weightBits(5, 1)", () -> bom.weightBits(5, 1));
        CHECK.due(INDEX, "weightBits(-1, 0)", () -> bom.weightBits(-1, 0));
        CHECK.due(ARGUMENT, "weightBits(0, 0)", () -> bom.weightBits(0, 0));
        CHECK.due(ARGUMENT, "weightBits(0, 1000)", () -> bom.weightBits(0, 1000));
    }

    private static void marks() {
        BillOfMaterials bom = new BillOfMaterials();
        bom.addPart('m', 100, 0);
        bom.addPart('b', 333, 0);
        bom.addVariant(0, 1, 1, 3, 1, 2);
        CHECK.due(ELEMENT, "costChange before the first mark", () -> bom.costChange(0, 1));
        CHECK.due(2, "markCosts(1)", () -> bom.markCosts(1));
        CHECK.due(0.0f, "costChange without a change", () -> bom.costChange(0, 1));
        float before = 1.0f;
        bom.setChoice(1, 1);
        float after = 1.0f + 3.0f * 100.0f / 100.0f * 3.33f;
        CHECK.due(after - before, "costChange by a choice", () -> bom.costChange(0, 1));
        CHECK.due(2, "markCosts(999)", () -> bom.markCosts(999));
        CHECK.due(0.0f, "costChange behind a new mark", () -> bom.costChange(0, 1));
        bom.endBefore(0, 500);
        CHECK.due(before - after, "costChange by a serial number", () -> bom.costChange(0, 500));
        CHECK.due(0.0f, "costChange for another serial number", () -> bom.costChange(0, 499));
        bom.addPart('b', 5, 0);
        CHECK.due(ELEMENT, "costChange of a part added later", () -> bom.costChange(2, 1));
        CHECK.due(ARGUMENT, "markCosts(0)", () -> bom.markCosts(0));
        CHECK.due(ARGUMENT, "markCosts(1000)", () -> bom.markCosts(1000));
        CHECK.due(ELEMENT, "costChange after refused marks", () -> bom.costChange(2, 1));
        bom.setPrice(1, 0);
        CHECK.due(-3.33f, "costChange by a price", () -> bom.costChange(1, 1));
        CHECK.due(INDEX, "costChange(3, 1)", () -> bom.costChange(3, 1));
        CHECK.due(INDEX, "costChange(-1, 0)", () -> bom.costChange(-1, 0));
        CHECK.due(ARGUMENT, "costChange(2, 0)", () -> bom.costChange(2, 0));
        CHECK.due(ARGUMENT, "costChange(0, 1000)", () -> bom.costChange(0, 1000));
        CHECK.due(3, "markCosts of three parts", () -> bom.markCosts(500));
        CHECK.due(0.0f, "costChange of the third part", () -> bom.costChange(2, 1));
        CHECK.due(0.0f, "costChange of the first part", () -> bom.costChange(0, 500));
    }

    private static void sixteenParts() {
        BillOfMaterials bom = new BillOfMaterials();
        for (int part = 0; part < 16; part++) {
            bom.addPart('m', 100 + part, 1000);
        }
        bom.addLine(15, 6, 0, 2, 1, 500);
        CHECK.due(16, "markCosts of 16 parts", () -> bom.markCosts(500));
        CHECK.due(16, "markCosts again for another number", () -> bom.markCosts(501));
        float last = 1.15f;
        float more = last + 2.0f * 100.0f / 100.0f * 1.0f;
        CHECK.due(more - last, "costChange of the last part", () -> bom.costChange(15, 500));
        CHECK.due(more, "cost of the last part", () -> bom.cost(15, 1));
        CHECK.due(more, "costByWalking of the last part", () -> bom.costByWalking(15, 1));
        CHECK.due(3.0, "weight of the last part", () -> bom.weight(15, 1));
        CHECK.due(0, "dearest of the last part", () -> bom.dearest(15, 1));
    }

    private static void bits() {
        BillOfMaterials bom = new BillOfMaterials();
        bom.addPart('b', 0, 0);
        CHECK.due(0, "the bits of the cost 0", () -> bom.costBits(0, 1));
        CHECK.due(0L, "the bits of the weight 0", () -> bom.weightBits(0, 1));
        for (int number = 1; number <= 99999; number = number < 2100 ? number + 1 : number + 977) {
            bom.setPrice(0, number);
            bom.setGrams(0, number);
            int amount = number;
            CHECK.due(Float.floatToIntBits(amount / 100.0f), "the bits of cents " + amount, () -> bom.costBits(0, 1));
            CHECK.due(Double.doubleToLongBits(amount / 1000.0), "the bits of grams " + amount,
                    () -> bom.weightBits(0, 1));
            CHECK.due((int) (amount / 100.0f * 100.0f), "the cents of " + amount, () -> bom.costCents(0, 1));
        }
    }
}
