import java.util.function.Supplier;

/** Calls with a number that they must refuse, on a new object, on one with some of everything and on a full one. */
final class Refusals {
    interface Call {
        Object answer(BillOfMaterials bom, int number);
    }

    private Refusals() {
    }

    static void noSuchPart(Sentences t, String what, Call call) {
        each(t, Sentences.INDEX, what, BillOfMaterials::new, call, 0, 1, 15);
        each(t, Sentences.INDEX, what, Fixtures::rich, call, -1, Fixtures.RICH_PARTS, Fixtures.RICH_PARTS + 1, 15, 16,
                -16, 65536, Integer.MIN_VALUE, Integer.MAX_VALUE);
        each(t, Sentences.INDEX, what, Fixtures::full, call, -1, 16, 17, 31, 32, 64, 256);
    }

    static void noSuchLine(Sentences t, String what, Call call) {
        each(t, Sentences.INDEX, what, BillOfMaterials::new, call, 0, 1, 39);
        each(t, Sentences.INDEX, what, Fixtures::rich, call, -1, Fixtures.RICH_LINES, Fixtures.RICH_LINES + 1, 39, 40,
                -40, 65536, Integer.MIN_VALUE, Integer.MAX_VALUE);
        each(t, Sentences.INDEX, what, Fixtures::full, call, -1, 40, 41, 64, 128);
    }

    static void noSuchOrder(Sentences t, String what, Call call) {
        each(t, Sentences.INDEX, what, BillOfMaterials::new, call, 0, 1, 7);
        each(t, Sentences.INDEX, what, Fixtures::rich, call, -1, Fixtures.RICH_ORDERS, Fixtures.RICH_ORDERS + 1, 7, 8,
                -8, 65536, Integer.MIN_VALUE, Integer.MAX_VALUE);
        each(t, Sentences.INDEX, what, Fixtures::full, call, -1, 8, 9, 16);
    }

    static void outsideOf(Sentences t, Class<?> want, String what, int least, int greatest, Call call) {
        int[] numbers = {least - 1, greatest + 1, -greatest, least - 1000, greatest + 1000, 131072 + least,
            Integer.MIN_VALUE, Integer.MIN_VALUE + greatest, Integer.MAX_VALUE};
        each(t, want, what, Fixtures::rich, call, numbers);
        each(t, want, what, Fixtures::full, call, least - 1, greatest + 1);
    }

    static void serialOutOfRange(Sentences t, String what, Call call) {
        outsideOf(t, Sentences.ARGUMENT, what, 1, 999, call);
        each(t, Sentences.ARGUMENT, what, Fixtures::rich, call, 1023, 1024);
    }

    private static void each(Sentences t, Class<?> want, String what, Supplier<BillOfMaterials> made, Call call,
            int... numbers) {
        for (int number : numbers) {
            t.refused(want, what + " with " + number, made, bom -> call.answer(bom, number));
        }
    }
}
