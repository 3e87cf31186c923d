import java.util.List;
import java.util.function.Supplier;

/** The sentences of the promises 36 to 40, each with its boundary cases. */
final class OrdersSentences {
    private static final Class<?> INDEX = Sentences.INDEX;
    private static final Class<?> ARGUMENT = Sentences.ARGUMENT;
    private static final Class<?> CIRCLE = Sentences.CIRCLE;
    private static final Class<?> STATE = Sentences.STATE;

    private OrdersSentences() {
    }

    static void all(Sentences s) {
        order(s);
        cancel(s);
        orderCost(s);
        need(s);
        isConsistent(s);
    }

    /** 16 parts and 8 orders: of 1 unit of the part 0, of 2 units of the part 1, and so on. */
    private static BillOfMaterials eightOrders() {
        BillOfMaterials bom = Fixtures.made(16);
        for (int order = 0; order < 8; order++) {
            bom.order(order, 1, order + 1);
        }
        return bom;
    }

    private static float costOfNewOrder(BillOfMaterials bom, int part, int serial) {
        int order = bom.order(part, serial, 1);
        return bom.orderCost(order);
    }

    // ---- promises 36 and 37

    private static void order(Sentences s) {
        s.section("Promise 36: order");
        s.test("Makes an order.", t -> {
            BillOfMaterials bom = Fixtures.chain(1);
            bom.order(0, 1, 10);
            t.due(10L, "need(0)", bom, b -> b.need(0));
            t.due(20L, "need(1)", bom, b -> b.need(1));
            t.due(30.0f, "orderCost(0)", bom, b -> b.orderCost(0));
            bom.order(1, 1, 5);
            t.due(25L, "need(1) with a second order", bom, b -> b.need(1));
            t.due(10L, "need(0) with a second order", bom, b -> b.need(0));
            t.due(1, "cancel(0)", bom, b -> b.cancel(0));
        });
        Object[] costs = {17.0f, 1.0f, 133.0f, 171.0f, 16.0f, 289.0f};
        EdgeSentences.part(s, OrdersSentences::costOfNewOrder, costs);
        EdgeSentences.serial(s, OrdersSentences::costOfNewOrder, costs);
        s.test("`units`: the number of units, 1 to 999", t -> {
            for (int units : new int[] {1, 2, 500, 998, 999}) {
                BillOfMaterials bom = Fixtures.made(1);
                t.due(0, "order of " + units, bom, b -> b.order(0, 1, units));
                t.due((long) units, "need", bom, b -> b.need(0));
                t.due((float) units, "orderCost", bom, b -> b.orderCost(0));
            }
        });
        s.test("Returns the number of the order.", t -> {
            BillOfMaterials bom = Fixtures.made(1);
            for (int order = 0; order < 8; order++) {
                int number = order;
                t.due(ARGUMENT, "a refused order", bom, b -> b.order(0, 0, 1));
                t.due(order, "order", bom, b -> b.order(0, 1, 1));
                t.due(0, "cancel", bom, b -> b.cancel(number));
            }
        });
        s.test("Throws `IndexOutOfBoundsException` if there is no such part", t -> {
            Refusals.noSuchPart(t, "of no unit", (b, part) -> b.order(part, 1, 0));
            Refusals.noSuchPart(t, "of 1000 units for 0", (b, part) -> b.order(part, 0, 1000));
            t.refused(INDEX, "when there are 8 orders", OrdersSentences::eightOrders, b -> b.order(16, 1, 1));
        });
        s.test("Throws `IllegalArgumentException` if the serial number or the number of units is out of range", t -> {
            Refusals.serialOutOfRange(t, "order", (b, serial) -> b.order(0, serial, 1));
            Refusals.serialOutOfRange(t, "order of no unit", (b, serial) -> b.order(0, serial, 0));
            Refusals.outsideOf(t, ARGUMENT, "units", 1, 999, (b, units) -> b.order(0, 1, units));
            Refusals.outsideOf(t, ARGUMENT, "units of the last part", 1, 999, (b, units) -> b.order(5, 999, units));
            t.refused(ARGUMENT, "no unit when there are 8", OrdersSentences::eightOrders, b -> b.order(0, 1, 0));
            t.refused(ARGUMENT, "1000 units when there are 8", OrdersSentences::eightOrders, b -> b.order(0, 1, 1000));
            t.refused(ARGUMENT, "for 0 when there are 8", OrdersSentences::eightOrders, b -> b.order(0, 0, 1));
            t.refused(ARGUMENT, "for 1000 when there are 8", OrdersSentences::eightOrders, b -> b.order(0, 1000, 1));
        });
        s.test("Throws `IllegalStateException` if there are 8 orders, cancelled ones included", t -> {
            BillOfMaterials bom = Fixtures.made(1);
            for (int order = 0; order < 7; order++) {
                bom.order(0, 1, 1);
            }
            t.due(7, "the 8th order", bom, b -> b.order(0, 999, 999));
            t.due(STATE, "the 9th order", bom, b -> b.order(0, 1, 1));
            for (int order = 0; order < 8; order++) {
                int cancelled = order;
                t.due(7 - order, "cancel(" + order + ")", bom, b -> b.cancel(cancelled));
                t.due(STATE, "an order for a cancelled one", bom, b -> b.order(0, 1, 1));
            }
            t.due(0L, "need(0)", bom, b -> b.need(0));
            t.refused(STATE, "the 9th order", OrdersSentences::eightOrders, b -> b.order(0, 1, 1));
            t.refused(STATE, "the 9th order when one is cancelled", Fixtures::full, b -> b.order(15, 999, 999));
        });
    }

    private static void cancel(Sentences s) {
        s.section("Promise 37: cancel");
        s.test("Cancels an order.", t -> {
            BillOfMaterials bom = eightOrders();
            for (int part = 0; part < 8; part++) {
                int asked = part;
                t.due(part + 1L, "need(" + part + ")", bom, b -> b.need(asked));
                bom.cancel(part);
                t.due(0L, "need(" + part + ") without the order", bom, b -> b.need(asked));
                t.due(part == 7 ? 0L : part + 2L, "need of the next part", bom, b -> b.need(asked + 1));
            }
        });
        s.test("`order`: the order", t -> {
            BillOfMaterials bom = eightOrders();
            t.due(7, "the last of 8", bom, b -> b.cancel(7));
            t.due(6, "the first of 8", bom, b -> b.cancel(0));
            t.due(0L, "need of its part", bom, b -> b.need(7));
            t.due(0L, "need of the other's part", bom, b -> b.need(0));
            t.due(2L, "need of another part", bom, b -> b.need(1));
        });
        s.test("Returns the number of orders that are not cancelled afterwards.", t -> {
            BillOfMaterials bom = eightOrders();
            int[] sequence = {3, 7, 0, 1, 6, 2, 5, 4};
            for (int i = 0; i < 8; i++) {
                int order = sequence[i];
                t.due(7 - i, "cancel(" + order + ")", bom, b -> b.cancel(order));
                t.due(STATE, "cancel(" + order + ") again", bom, b -> b.cancel(order));
            }
            BillOfMaterials one = Fixtures.made(1);
            one.order(0, 1, 1);
            t.due(0, "cancel of the only order", one, b -> b.cancel(0));
            one.order(0, 1, 1);
            one.order(0, 1, 1);
            t.due(1, "cancel of one of two behind it", one, b -> b.cancel(2));
        });
        s.test("Throws `IndexOutOfBoundsException` if there is no such order",
                t -> Refusals.noSuchOrder(t, "cancel", (b, order) -> b.cancel(order)));
        s.test("Throws `IllegalStateException` if it was cancelled before", t -> {
            t.refused(STATE, "the order 1", Fixtures::rich, b -> b.cancel(1));
            t.refused(STATE, "the order 5 of 8", Fixtures::full, b -> b.cancel(5));
            for (int order : new int[] {0, 7}) {
                Supplier<BillOfMaterials> made = () -> {
                    BillOfMaterials bom = eightOrders();
                    bom.cancel(order);
                    return bom;
                };
                t.refused(STATE, "the order " + order, made, b -> b.cancel(order));
            }
        });
    }

    // ---- promises 38 to 40

    private static void orderCost(Sentences s) {
        s.section("Promise 38: orderCost");
        s.test("Returns the cost of an order, cancelled or not: the number of units, converted to float, times the "
                + "cost of the ordered part for the serial number and the configuration of the order.", t -> {
            BillOfMaterials bom = Fixtures.made(2);
            bom.setPrice(0, 333);
            bom.setPrice(1, 99999);
            bom.addVariant(0, 1, 1, 3, 3, 8);
            bom.addLine(0, 2, 1, 7, 999, 999);
            bom.setScrap(1, 50);
            bom.order(0, 998, 999);
            bom.order(0, 999, 999);
            bom.setChoice(3, 3);
            bom.order(0, 998, 7);
            bom.order(0, 999, 1);
            bom.setChoice(3, 0);
            float variant = 3.0f * 100.0f / 100.0f * 999.99f;
            float line = 7.0f * 150.0f / 100.0f * 999.99f;
            float[] want = {999.0f * 3.33f, 999.0f * (3.33f + line), 7.0f * (3.33f + variant),
                1.0f * (3.33f + variant + line)};
            for (int order = 0; order < 4; order++) {
                int asked = order;
                t.due(want[order], "orderCost(" + order + ")", bom, b -> b.orderCost(asked));
                bom.cancel(order);
                t.due(want[order], "orderCost(" + order + "), cancelled", bom, b -> b.orderCost(asked));
            }
        });
        s.test("`order`: the order", t -> {
            BillOfMaterials bom = eightOrders();
            t.due(1.0f, "the first of 8", bom, b -> b.orderCost(0));
            t.due(8.0f, "the last of 8", bom, b -> b.orderCost(7));
            bom.cancel(7);
            t.due(8.0f, "the last of 8, cancelled", bom, b -> b.orderCost(7));
        });
        s.test("Returns the cost.", t -> {
            BillOfMaterials bom = TermsSentences.broadest();
            bom.order(0, 1, 999);
            bom.order(0, 1, 1);
            t.due(999.0f * bom.cost(0, 1), "the greatest cost", bom, b -> b.orderCost(0));
            t.due(bom.cost(0, 1), "of one unit", bom, b -> b.orderCost(1));
            BillOfMaterials free = Fixtures.made(1);
            free.order(0, 1, 999);
            free.setPrice(0, 0);
            t.due(0.0f, "of a part that costs nothing", free, b -> b.orderCost(0));
            free.setPrice(0, 99999);
            t.due(999.0f * 999.99f, "of a price that has changed", free, b -> b.orderCost(0));
        });
        s.test("Throws `IndexOutOfBoundsException` if there is no such order",
                t -> Refusals.noSuchOrder(t, "orderCost", (b, order) -> b.orderCost(order)));
    }

    private static void need(Sentences s) {
        s.section("Promise 39: need");
        s.test("Returns the need for a component.", t -> {
            BillOfMaterials bom = Fixtures.chain(4);
            t.due(0L, "need without orders", bom, b -> b.need(4));
            bom.order(0, 1, 1);
            bom.order(3, 999, 999);
            t.due(120L + 5 * 999, "need(4)", bom, b -> b.need(4));
            t.due(24L + 999, "need(3)", bom, b -> b.need(3));
            t.due(1L, "need(0)", bom, b -> b.need(0));
            bom.endBefore(3, 999);
            t.due(120L, "need(4) when its line ended before 999", bom, b -> b.need(4));
            bom.cancel(0);
            t.due(0L, "need(4) with a cancelled order", bom, b -> b.need(4));
        });
        s.test("`component`: the component", t -> {
            BillOfMaterials bom = Fixtures.edges();
            bom.order(14, 1, 3);
            bom.order(14, 999, 5);
            t.due(5L * 19, "the first of 16", bom, b -> b.need(0));
            t.due(3L * 17, "the last of 16", bom, b -> b.need(15));
            t.due(8L, "the ordered part", bom, b -> b.need(14));
        });
        s.test("Returns the number of units.", t -> {
            BillOfMaterials bom = TermsSentences.broadest();
            for (int order = 0; order < 8; order++) {
                bom.order(0, 999, 999);
                long want = (order + 1) * 999L * 207360000L;
                t.due(want, "need with " + (order + 1) + " orders", bom, b -> b.need(4));
            }
            BillOfMaterials one = Fixtures.made(1);
            t.due(0L, "no unit", one, b -> b.need(0));
            one.order(0, 1, 1);
            t.due(1L, "one unit", one, b -> b.need(0));
        });
        s.test("Throws `IndexOutOfBoundsException` if the component does not exist",
                t -> Refusals.noSuchPart(t, "need", (b, part) -> b.need(part)));
    }

    private static void isConsistent(Sentences s) {
        s.section("Promise 40: isConsistent");
        s.test("Returns true if the invariants hold.", t -> {
            List<Supplier<BillOfMaterials>> objects = List.of(BillOfMaterials::new, () -> Fixtures.parts("b"),
                    () -> Fixtures.made(16), Fixtures::rich, Fixtures::full, Fixtures::deep, Fixtures::edges,
                    () -> Fixtures.chain(4), () -> Fixtures.lines(40), TermsSentences::broadest,
                    OrdersSentences::eightOrders);
            for (Supplier<BillOfMaterials> made : objects) {
                t.due(true, "isConsistent()", made.get(), b -> b.isConsistent());
            }
            BillOfMaterials bom = Fixtures.full();
            t.due(STATE, "a part too many", bom, b -> b.addPart('b', 0, 0));
            t.due(STATE, "a line too many", bom, b -> b.addLine(14, 1, 15, 1, 1, 999));
            t.due(STATE, "an order too many", bom, b -> b.order(0, 1, 1));
            t.due(CIRCLE, "a circle", bom, b -> b.addLine(0, 1, 0, 1, 1, 999));
            t.due(INDEX, "no such line", bom, b -> b.setScrap(40, 1));
            t.due(true, "isConsistent() after refusals", bom, b -> b.isConsistent());
            for (int line = 0; line < 40; line++) {
                bom.endBefore(line, 2);
                bom.setScrap(line, 50);
            }
            for (int option = 0; option < 4; option++) {
                bom.setChoice(option, 3);
            }
            t.due(true, "isConsistent() with all lines shortened", bom, b -> b.isConsistent());
        });
    }
}
