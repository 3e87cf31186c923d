/** The sentences about a part and a serial number, which many promises have. */
final class EdgeSentences {
    private static final int[] SERIALS = {1, 2, 500, 998, 999};

    interface Call {
        Object answer(BillOfMaterials bom, int part, int serial);
    }

    private EdgeSentences() {
    }

    /**
     * What is due for the object Fixtures.edges: of the first part for 1, in between, and for 999, then of the last
     * part for 1, in between, and for 999.
     */
    static void partAndSerial(Sentences s, Call call, Object... due) {
        part(s, call, due);
        serial(s, call, due);
        s.test("Throws `IllegalArgumentException` if the serial number is out of range", t -> serialRefused(t, call));
    }

    static void part(Sentences s, Call call, Object... due) {
        s.test("`part`: the part", t -> partArgument(t, "part", call, due));
        s.test("Throws `IndexOutOfBoundsException` if there is no such part", t -> missing(t, "the part", call));
    }

    static void serial(Sentences s, Call call, Object... due) {
        s.test("`serial`: the serial number, 1 to 999", t -> {
            for (int i = 0; i < SERIALS.length; i++) {
                int serial = SERIALS[i];
                int place = i == 0 ? 0 : i == 4 ? 2 : 1;
                t.due(due[place], "the first part for " + serial, Fixtures.edges(), b -> call.answer(b, 0, serial));
                t.due(due[3 + place], "the last part for " + serial, Fixtures.edges(),
                        b -> call.answer(b, 15, serial));
            }
            BillOfMaterials first = Fixtures.edges();
            BillOfMaterials last = Fixtures.edges();
            for (int i : new int[] {4, 2, 0, 1, 4, 0, 2}) {
                int serial = SERIALS[i];
                int place = i == 0 ? 0 : i == 4 ? 2 : 1;
                t.due(due[place], "the first part, asked again, for " + serial, first, b -> call.answer(b, 0, serial));
                t.due(due[3 + place], "the last part, asked again, for " + serial, last,
                        b -> call.answer(b, 15, serial));
            }
        });
    }

    static void partArgument(Sentences t, String what, Call call, Object... due) {
        t.due(due[0], "the first " + what + " for 1", Fixtures.edges(), b -> call.answer(b, 0, 1));
        t.due(due[3], "the last " + what + " for 1", Fixtures.edges(), b -> call.answer(b, 15, 1));
        t.due(due[2], "the first " + what + " for 999", Fixtures.edges(), b -> call.answer(b, 0, 999));
        t.due(due[5], "the last " + what + " for 999", Fixtures.edges(), b -> call.answer(b, 15, 999));
    }

    static void missing(Sentences t, String what, Call call) {
        for (int serial : new int[] {1, 999, 0, 1000}) {
            Refusals.noSuchPart(t, what + " for " + serial, (b, part) -> call.answer(b, part, serial));
        }
    }

    static void serialRefused(Sentences t, Call call) {
        for (int part : new int[] {0, 3, Fixtures.RICH_PARTS - 1}) {
            Refusals.serialOutOfRange(t, "the part " + part, (b, serial) -> call.answer(b, part, serial));
        }
    }
}
