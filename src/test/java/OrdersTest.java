/** Promises 36 to 40. */
public final class OrdersTest {
    private static final Class<?> INDEX = IndexOutOfBoundsException.class;
    private static final Class<?> ARGUMENT = IllegalArgumentException.class;
    private static final Class<?> STATE = IllegalStateException.class;
    private static final Check CHECK = new Check("OrdersTest");

    public static void main(String[] args) {
        orders();
        cancel();
        needs();
        orderCosts();
        CHECK.finish();
    }

    private static BillOfMaterials small() {
        BillOfMaterials bom = new BillOfMaterials();
        bom.addPart('m', 100, 0);
        bom.addPart('m', 50, 0);
        bom.addPart('b', 333, 0);
        bom.addLine(0, 1, 1, 2, 1, 500);
        bom.addVariant(1, 1, 2, 3, 2, 2);
        return bom;
    }

    private static void orders() {
        BillOfMaterials bom = small();
        CHECK.due(0, "order with the least numbers", () -> bom.order(0, 1, 1));
        CHECK.due(1, "order with the greatest numbers", () -> bom.order(2, 999, 999));
        CHECK.due(INDEX, "order(3, 1, 1)", () -> bom.order(3, 1, 1));
        CHECK.due(INDEX, "order(-1, 0, 0)", () -> bom.order(-1, 0, 0));
        CHECK.due(ARGUMENT, "order(0, 0, 1)", () -> bom.order(0, 0, 1));
        CHECK.due(ARGUMENT, "order(0, 1000, 1)", () -> bom.order(0, 1000, 1));
        CHECK.due(ARGUMENT, "order(0, 1, 0)", () -> bom.order(0, 1, 0));
        CHECK.due(ARGUMENT, "order(0, 1, 1000)", () -> bom.order(0, 1, 1000));
        CHECK.due(2, "order after refusals", () -> bom.order(0, 1, 1));
        bom.cancel(0);
        for (int order = 3; order < 8; order++) {
            CHECK.due(order, "order " + order, () -> bom.order(1, 1, 1));
        }
        CHECK.due(STATE, "order 8", () -> bom.order(1, 1, 1));
        CHECK.due(ARGUMENT, "order 8 with wrong units", () -> bom.order(1, 1, 0));
        CHECK.due(ARGUMENT, "order 8 with a wrong serial number", () -> bom.order(1, 0, 1));
        CHECK.due(INDEX, "order 8 of no part", () -> bom.order(3, 1, 1));
        CHECK.due(true, "isConsistent when full", () -> bom.isConsistent());
    }

    private static void cancel() {
        BillOfMaterials bom = small();
        bom.order(0, 1, 1);
        bom.order(0, 1, 2);
        bom.order(0, 1, 4);
        CHECK.due(INDEX, "cancel(3)", () -> bom.cancel(3));
        CHECK.due(INDEX, "cancel(-1)", () -> bom.cancel(-1));
        CHECK.due(7L, "need before cancel", () -> bom.need(0));
        CHECK.due(2, "cancel(1)", () -> bom.cancel(1));
        CHECK.due(5L, "need after cancel(1)", () -> bom.need(0));
        CHECK.due(STATE, "cancel(1) again", () -> bom.cancel(1));
        CHECK.due(1, "cancel(2)", () -> bom.cancel(2));
        CHECK.due(1L, "need after cancel(2)", () -> bom.need(0));
        CHECK.due(0, "cancel(0)", () -> bom.cancel(0));
        CHECK.due(0L, "need after cancel(0)", () -> bom.need(0));
        CHECK.due(STATE, "cancel(0) again", () -> bom.cancel(0));
        CHECK.due(3, "order after cancels", () -> bom.order(0, 1, 3));
        CHECK.due(3L, "need after an order", () -> bom.need(0));
        CHECK.due(true, "isConsistent", () -> bom.isConsistent());
    }

    private static void needs() {
        BillOfMaterials bom = small();
        CHECK.due(0L, "need without orders", () -> bom.need(0));
        bom.order(0, 500, 10);
        bom.setChoice(2, 1);
        bom.order(0, 500, 100);
        bom.order(0, 501, 7);
        bom.order(1, 999, 3);
        bom.setChoice(2, 0);
        CHECK.due(117L, "need(0)", () -> bom.need(0));
        CHECK.due(223L, "need(1)", () -> bom.need(1));
        CHECK.due(609L, "need(2)", () -> bom.need(2));
        CHECK.due(0, "an order leaves the present configuration alone", () -> bom.choice(2));
        bom.endBefore(0, 500);
        CHECK.due(3L, "need(1) when a line was shortened", () -> bom.need(1));
        CHECK.due(9L, "need(2) when a line was shortened", () -> bom.need(2));
        CHECK.due(INDEX, "need(3)", () -> bom.need(3));
        CHECK.due(INDEX, "need(-1)", () -> bom.need(-1));
    }

    private static void orderCosts() {
        BillOfMaterials bom = small();
        bom.order(0, 500, 3);
        bom.setChoice(2, 1);
        bom.order(0, 500, 7);
        bom.order(0, 501, 999);
        bom.setChoice(2, 3);
        float part1 = 0.5f + 3.0f * 100.0f / 100.0f * 3.33f;
        float part0 = 1.0f + 2.0f * 100.0f / 100.0f * part1;
        CHECK.due(3.0f * 2.0f, "orderCost(0)", () -> bom.orderCost(0));
        CHECK.due(7.0f * part0, "orderCost(1)", () -> bom.orderCost(1));
        CHECK.due(999.0f, "orderCost(2)", () -> bom.orderCost(2));
        bom.cancel(1);
        CHECK.due(7.0f * part0, "orderCost of a cancelled order", () -> bom.orderCost(1));
        bom.setScrap(0, 50);
        bom.setPrice(0, 10);
        CHECK.due(3.0f * (0.1f + 2.0f * 150.0f / 100.0f * 0.5f), "orderCost after changes", () -> bom.orderCost(0));
        CHECK.due(INDEX, "orderCost(3)", () -> bom.orderCost(3));
        CHECK.due(INDEX, "orderCost(-1)", () -> bom.orderCost(-1));
    }
}
