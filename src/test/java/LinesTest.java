/** Promises 8 to 17. */
public final class LinesTest {
    private static final Class<?> INDEX = IndexOutOfBoundsException.class;
    private static final Class<?> ARGUMENT = IllegalArgumentException.class;
    private static final Class<?> SUPPORT = UnsupportedOperationException.class;
    private static final Class<?> STATE = IllegalStateException.class;
    private static final Check CHECK = new Check("LinesTest");

    public static void main(String[] args) {
        addLine();
        addVariant();
        circlesAndDepth();
        collisionsOfRanges();
        collisionsOfConditions();
        fortyLines();
        replaceFrom();
        replaceFromRefusals();
        endBefore();
        setScrap();
        holds();
        choices();
        CHECK.finish();
    }

    private static BillOfMaterials withParts(int count) {
        BillOfMaterials bom = new BillOfMaterials();
        for (int part = 0; part < count; part++) {
            bom.addPart('m', 100, 1000);
        }
        return bom;
    }

    private static void addLine() {
        BillOfMaterials bom = withParts(3);
        CHECK.due(0, "addLine with the least numbers", () -> bom.addLine(0, 1, 1, 1, 1, 1));
        CHECK.due(1, "addLine with the greatest numbers", () -> bom.addLine(0, 6, 2, 20, 999, 999));
        CHECK.due(INDEX, "addLine parent -1", () -> bom.addLine(-1, 2, 1, 1, 1, 1));
        CHECK.due(INDEX, "addLine parent 3", () -> bom.addLine(3, 2, 1, 1, 1, 1));
        CHECK.due(INDEX, "addLine child -1", () -> bom.addLine(0, 2, -1, 1, 1, 1));
        CHECK.due(INDEX, "addLine child 3", () -> bom.addLine(0, 2, 3, 1, 1, 1));
        CHECK.due(ARGUMENT, "addLine position 0", () -> bom.addLine(0, 0, 1, 1, 1, 1));
        CHECK.due(ARGUMENT, "addLine position 7", () -> bom.addLine(0, 7, 1, 1, 1, 1));
        CHECK.due(ARGUMENT, "addLine quantity 0", () -> bom.addLine(0, 2, 1, 0, 1, 1));
        CHECK.due(ARGUMENT, "addLine quantity 21", () -> bom.addLine(0, 2, 1, 21, 1, 1));
        CHECK.due(ARGUMENT, "addLine first 0", () -> bom.addLine(0, 2, 1, 1, 0, 1));
        CHECK.due(ARGUMENT, "addLine first 1000", () -> bom.addLine(0, 2, 1, 1, 1000, 1000));
        CHECK.due(ARGUMENT, "addLine last 1000", () -> bom.addLine(0, 2, 1, 1, 1, 1000));
        CHECK.due(ARGUMENT, "addLine last before first", () -> bom.addLine(0, 2, 1, 1, 6, 5));
        CHECK.due(INDEX, "addLine child and position wrong", () -> bom.addLine(0, 7, 3, 1, 1, 1));
        CHECK.due(ARGUMENT, "addLine wrong range and circle", () -> bom.addLine(0, 2, 0, 1, 6, 5));
        CHECK.due(ARGUMENT, "addLine wrong quantity and collision", () -> bom.addLine(0, 1, 1, 0, 1, 1));
        CHECK.due(2, "lines after refusals", () -> bom.lines());
        CHECK.due(1, "lastSerial(0)", () -> bom.lastSerial(0));
        CHECK.due(999, "lastSerial(1)", () -> bom.lastSerial(1));
        CHECK.due(INDEX, "lastSerial(2)", () -> bom.lastSerial(2));
        CHECK.due(INDEX, "lastSerial(-1)", () -> bom.lastSerial(-1));
        CHECK.due(1L, "quantity of line 0", () -> bom.quantity(0, 1, 1));
        CHECK.due(20L, "quantity of line 1", () -> bom.quantity(0, 2, 999));
        CHECK.due(0, "scrap of a new line", () -> bom.setScrap(1, 3));
        bom.setChoice(0, 3);
        bom.setChoice(1, 2);
        CHECK.due(true, "a line without a condition holds", () -> bom.holds(0, 1));
        CHECK.due(true, "isConsistent", () -> bom.isConsistent());
    }

    private static void addVariant() {
        BillOfMaterials bom = withParts(3);
        CHECK.due(0, "addVariant with the least numbers", () -> bom.addVariant(0, 1, 1, 1, 0, 1));
        CHECK.due(1, "addVariant with the greatest numbers", () -> bom.addVariant(0, 6, 2, 20, 3, 15));
        CHECK.due(INDEX, "addVariant parent -1", () -> bom.addVariant(-1, 2, 1, 1, 0, 1));
        CHECK.due(INDEX, "addVariant parent 3", () -> bom.addVariant(3, 2, 1, 1, 0, 1));
        CHECK.due(INDEX, "addVariant child -1", () -> bom.addVariant(0, 2, -1, 1, 0, 1));
        CHECK.due(INDEX, "addVariant child 3", () -> bom.addVariant(0, 2, 3, 1, 0, 1));
        CHECK.due(ARGUMENT, "addVariant position 0", () -> bom.addVariant(0, 0, 1, 1, 0, 1));
        CHECK.due(ARGUMENT, "addVariant position 7", () -> bom.addVariant(0, 7, 1, 1, 0, 1));
        CHECK.due(ARGUMENT, "addVariant quantity 0", () -> bom.addVariant(0, 2, 1, 0, 0, 1));
        CHECK.due(ARGUMENT, "addVariant quantity 21", () -> bom.addVariant(0, 2, 1, 21, 0, 1));
        CHECK.due(ARGUMENT, "addVariant option -1", () -> bom.addVariant(0, 2, 1, 1, -1, 1));
        CHECK.due(ARGUMENT, "addVariant option 4", () -> bom.addVariant(0, 2, 1, 1, 4, 1));
        CHECK.due(ARGUMENT, "addVariant choices 0", () -> bom.addVariant(0, 2, 1, 1, 0, 0));
        CHECK.due(ARGUMENT, "addVariant choices 16", () -> bom.addVariant(0, 2, 1, 1, 0, 16));
        CHECK.due(ARGUMENT, "addVariant choices -1", () -> bom.addVariant(0, 2, 1, 1, 0, -1));
        CHECK.due(INDEX, "addVariant child and option wrong", () -> bom.addVariant(0, 2, 3, 1, 4, 1));
        CHECK.due(ARGUMENT, "addVariant wrong option and circle", () -> bom.addVariant(0, 2, 0, 1, 4, 1));
        CHECK.due(SUPPORT, "addVariant to itself", () -> bom.addVariant(0, 2, 0, 1, 0, 1));
        CHECK.due(SUPPORT, "addVariant as a circle at a taken place", () -> bom.addVariant(1, 1, 0, 1, 0, 1));
        CHECK.due(2, "lines after refusals", () -> bom.lines());
        CHECK.due(999, "lastSerial of a variant", () -> bom.lastSerial(0));
        CHECK.due(true, "a variant holds for 1", () -> bom.holds(0, 1));
        CHECK.due(true, "a variant holds for 999", () -> bom.holds(0, 999));
        CHECK.due(20L, "quantity of a variant", () -> bom.quantity(0, 2, 500));
        CHECK.due(0, "scrap of a new variant", () -> bom.setScrap(0, 3));
        CHECK.due(true, "isConsistent", () -> bom.isConsistent());
    }

    private static void circlesAndDepth() {
        BillOfMaterials bom = withParts(8);
        CHECK.due(SUPPORT, "a part in itself", () -> bom.addLine(0, 1, 0, 1, 1, 999));
        bom.addLine(0, 1, 1, 1, 1, 1);
        bom.addVariant(1, 1, 2, 1, 0, 8);
        bom.addLine(2, 1, 3, 1, 999, 999);
        CHECK.due(SUPPORT, "a circle of two lines that never hold together", () -> bom.addLine(1, 2, 0, 1, 5, 9));
        CHECK.due(SUPPORT, "a circle of four lines", () -> bom.addLine(3, 2, 0, 1, 1, 999));
        CHECK.due(3, "a chain of four lines", () -> bom.addLine(3, 1, 4, 1, 1, 999));
        CHECK.due(SUPPORT, "a circle that is too deep too", () -> bom.addLine(4, 2, 0, 1, 1, 999));
        CHECK.due(STATE, "a fifth line at the end", () -> bom.addLine(4, 1, 5, 1, 1, 999));
        CHECK.due(STATE, "a fifth line at the front", () -> bom.addVariant(5, 1, 0, 1, 0, 1));
        CHECK.due(4, "two lines beside the chain", () -> bom.addLine(5, 1, 6, 1, 1, 999));
        CHECK.due(STATE, "a long and a short chain joined", () -> bom.addLine(3, 2, 5, 1, 1, 999));
        CHECK.due(5, "two short chains joined", () -> bom.addLine(2, 2, 5, 1, 1, 999));
        CHECK.due(6, "a line inside the chain", () -> bom.addLine(0, 2, 4, 1, 1, 999));
        CHECK.due(STATE, "a chain of a shorter way joined to a longer one", () -> bom.addLine(4, 3, 7, 1, 1, 999));
        bom.endBefore(6, 2);
        CHECK.due(STATE, "too deep by lines that are shortened", () -> bom.addLine(4, 3, 7, 1, 500, 999));
        CHECK.due(7, "lines after refusals", () -> bom.lines());
        CHECK.due(true, "isConsistent", () -> bom.isConsistent());
    }

    private static void collisionsOfRanges() {
        BillOfMaterials bom = withParts(4);
        bom.addLine(0, 1, 1, 1, 10, 20);
        CHECK.due(STATE, "the same range", () -> bom.addLine(0, 1, 2, 1, 10, 20));
        CHECK.due(STATE, "a range that ends at the first one", () -> bom.addLine(0, 1, 2, 1, 1, 10));
        CHECK.due(STATE, "a range that begins at the last one", () -> bom.addLine(0, 1, 2, 1, 20, 30));
        CHECK.due(STATE, "a range inside", () -> bom.addLine(0, 1, 2, 1, 12, 13));
        CHECK.due(STATE, "a range around", () -> bom.addLine(0, 1, 2, 1, 1, 999));
        CHECK.due(STATE, "a variant", () -> bom.addVariant(0, 1, 2, 1, 3, 1));
        CHECK.due(SUPPORT, "a collision that is a circle", () -> bom.addLine(0, 1, 0, 1, 10, 20));
        CHECK.due(1, "a range before", () -> bom.addLine(0, 1, 1, 1, 1, 9));
        CHECK.due(2, "a range behind", () -> bom.addLine(0, 1, 2, 1, 21, 999));
        CHECK.due(3, "another position", () -> bom.addLine(0, 2, 2, 1, 10, 20));
        CHECK.due(4, "another parent", () -> bom.addLine(3, 1, 2, 1, 10, 20));
        bom.endBefore(0, 15);
        CHECK.due(STATE, "a range with the last number that is left", () -> bom.addLine(0, 1, 1, 1, 14, 20));
        CHECK.due(5, "a range that became free", () -> bom.addLine(0, 1, 1, 1, 15, 20));
        CHECK.due(true, "isConsistent", () -> bom.isConsistent());
    }

    private static void collisionsOfConditions() {
        BillOfMaterials bom = withParts(3);
        bom.addVariant(0, 1, 1, 1, 2, 5);
        CHECK.due(STATE, "sets with a common choice", () -> bom.addVariant(0, 1, 2, 1, 2, 12));
        CHECK.due(STATE, "another option", () -> bom.addVariant(0, 1, 2, 1, 1, 10));
        CHECK.due(STATE, "no condition", () -> bom.addLine(0, 1, 2, 1, 7, 7));
        CHECK.due(1, "sets without a common choice", () -> bom.addVariant(0, 1, 2, 1, 2, 10));
        CHECK.due(2, "the same condition elsewhere", () -> bom.addVariant(0, 2, 2, 1, 2, 5));
        bom.endBefore(0, 500);
        CHECK.due(STATE, "a variant over a shortened one", () -> bom.addVariant(0, 1, 2, 1, 2, 1));
        CHECK.due(STATE, "a line behind one of two variants", () -> bom.addLine(0, 1, 2, 1, 500, 999));
        bom.endBefore(1, 600);
        CHECK.due(3, "a line behind both variants", () -> bom.addLine(0, 1, 2, 1, 600, 999));
        bom.addLine(1, 1, 2, 1, 1, 1);
        bom.addLine(1, 2, 2, 1, 999, 999);
        CHECK.due(STATE, "a variant over a line for 1", () -> bom.addVariant(1, 1, 2, 1, 0, 1));
        CHECK.due(STATE, "a variant over a line for 999", () -> bom.addVariant(1, 2, 2, 1, 0, 1));
        CHECK.due(6, "a condition on option 0", () -> bom.addVariant(0, 3, 1, 1, 0, 1));
        CHECK.due(STATE, "no condition beside one on option 0", () -> bom.addLine(0, 3, 1, 1, 1, 999));
        CHECK.due(7, "no condition first", () -> bom.addLine(0, 4, 1, 1, 1, 999));
        CHECK.due(STATE, "option 0 beside no condition", () -> bom.addVariant(0, 4, 1, 1, 0, 8));
        CHECK.due(STATE, "option 3 beside no condition", () -> bom.addVariant(0, 4, 1, 1, 3, 8));
        CHECK.due(true, "isConsistent", () -> bom.isConsistent());
    }

    private static void fortyLines() {
        BillOfMaterials bom = withParts(16);
        for (int line = 0; line < 40; line++) {
            int serial = line + 1;
            CHECK.due(line, "addLine " + line, () -> bom.addLine(0, 1, 1, 1, serial, serial + (serial == 40 ? 1 : 0)));
        }
        CHECK.due(STATE, "addLine 40", () -> bom.addLine(2, 1, 3, 1, 1, 999));
        CHECK.due(STATE, "addVariant 40", () -> bom.addVariant(2, 1, 3, 1, 0, 1));
        CHECK.due(STATE, "replaceFrom 40", () -> bom.replaceFrom(39, 41, 1, 1));
        CHECK.due(SUPPORT, "addLine 40 as a circle", () -> bom.addLine(2, 1, 2, 1, 1, 999));
        CHECK.due(SUPPORT, "addVariant 40 as a circle", () -> bom.addVariant(1, 1, 0, 1, 0, 1));
        CHECK.due(SUPPORT, "replaceFrom 40 as a circle", () -> bom.replaceFrom(39, 41, 0, 1));
        CHECK.due(ARGUMENT, "addLine 40 wrong", () -> bom.addLine(2, 7, 3, 1, 1, 999));
        CHECK.due(ARGUMENT, "replaceFrom 40 wrong", () -> bom.replaceFrom(39, 40, 1, 1));
        CHECK.due(40, "lines when full", () -> bom.lines());
        CHECK.due(41, "lastSerial(39) after refusals", () -> bom.lastSerial(39));
        CHECK.due(INDEX, "lastSerial(40)", () -> bom.lastSerial(40));
        CHECK.due(40, "a last serial number of a full table", () -> bom.endBefore(39, 41) - 1);
        CHECK.due(true, "isConsistent when full", () -> bom.isConsistent());
        CHECK.due(1L, "quantity when full", () -> bom.quantity(0, 1, 40));
        CHECK.due(0L, "quantity behind the last line", () -> bom.quantity(0, 1, 41));
    }

    private static void replaceFrom() {
        BillOfMaterials bom = withParts(4);
        bom.addVariant(0, 3, 1, 4, 2, 6);
        bom.setScrap(0, 25);
        bom.setPrice(2, 1000);
        CHECK.due(1, "replaceFrom the second number", () -> bom.replaceFrom(0, 2, 2, 20));
        CHECK.due(1, "lastSerial(0)", () -> bom.lastSerial(0));
        CHECK.due(999, "lastSerial(1)", () -> bom.lastSerial(1));
        CHECK.due(2, "replaceFrom the last number", () -> bom.replaceFrom(1, 999, 1, 1));
        CHECK.due(998, "lastSerial(1) then", () -> bom.lastSerial(1));
        CHECK.due(999, "lastSerial(2)", () -> bom.lastSerial(2));
        CHECK.due(false, "the condition is kept", () -> bom.holds(1, 500));
        bom.setChoice(2, 1);
        CHECK.due(true, "the condition is kept and fulfilled", () -> bom.holds(1, 500));
        CHECK.due(false, "the new line begins with the number", () -> bom.holds(1, 1));
        CHECK.due(true, "the new line holds for its first number", () -> bom.holds(1, 2));
        CHECK.due(false, "the new line ended", () -> bom.holds(1, 999));
        CHECK.due(true, "the newest line holds", () -> bom.holds(2, 999));
        CHECK.due(4L, "the old quantity", () -> bom.quantity(0, 1, 1));
        CHECK.due(20L, "the new quantity", () -> bom.quantity(0, 2, 2));
        CHECK.due(251.0f, "the scrap rate is kept", () -> bom.cost(0, 2));
        CHECK.due(25, "setScrap of the new line", () -> bom.setScrap(1, 0));
        CHECK.due(STATE, "the position is kept", () -> bom.addLine(0, 3, 2, 1, 500, 500));
        bom.setChoice(2, 2);
        CHECK.due(true, "the other choice of the condition", () -> bom.holds(1, 500));
        bom.setChoice(2, 3);
        CHECK.due(false, "a choice outside the condition", () -> bom.holds(1, 500));
        bom.setChoice(2, 0);
        bom.setChoice(1, 1);
        CHECK.due(false, "another option's choice", () -> bom.holds(1, 500));
        BillOfMaterials short1 = withParts(3);
        short1.addLine(0, 1, 1, 1, 5, 9);
        CHECK.due(1, "replaceFrom inside a range", () -> short1.replaceFrom(0, 7, 1, 2));
        CHECK.due(9, "the previous last serial number is kept", () -> short1.lastSerial(1));
        CHECK.due(6, "the line ends before", () -> short1.lastSerial(0));
        CHECK.due(true, "isConsistent", () -> short1.isConsistent() && bom.isConsistent());
    }

    private static void replaceFromRefusals() {
        BillOfMaterials bom = withParts(7);
        bom.addLine(0, 1, 1, 1, 5, 9);
        bom.addLine(1, 1, 2, 1, 1, 999);
        bom.addLine(2, 1, 3, 1, 1, 999);
        bom.addLine(3, 1, 4, 1, 1, 999);
        bom.addLine(5, 1, 6, 1, 1, 999);
        CHECK.due(INDEX, "replaceFrom line -1", () -> bom.replaceFrom(-1, 7, 1, 1));
        CHECK.due(INDEX, "replaceFrom line 5", () -> bom.replaceFrom(5, 7, 1, 1));
        CHECK.due(INDEX, "replaceFrom child -1", () -> bom.replaceFrom(0, 7, -1, 1));
        CHECK.due(INDEX, "replaceFrom child 7", () -> bom.replaceFrom(0, 7, 7, 1));
        CHECK.due(INDEX, "replaceFrom child and quantity wrong", () -> bom.replaceFrom(0, 7, 7, 0));
        CHECK.due(ARGUMENT, "replaceFrom quantity 0", () -> bom.replaceFrom(0, 7, 2, 0));
        CHECK.due(ARGUMENT, "replaceFrom quantity 21", () -> bom.replaceFrom(0, 7, 2, 21));
        CHECK.due(ARGUMENT, "replaceFrom the first number", () -> bom.replaceFrom(0, 5, 2, 1));
        CHECK.due(ARGUMENT, "replaceFrom behind the last number", () -> bom.replaceFrom(0, 10, 2, 1));
        CHECK.due(ARGUMENT, "replaceFrom 0", () -> bom.replaceFrom(0, 0, 2, 1));
        CHECK.due(ARGUMENT, "replaceFrom 1000", () -> bom.replaceFrom(1, 1000, 3, 1));
        CHECK.due(ARGUMENT, "replaceFrom wrong number and circle", () -> bom.replaceFrom(0, 5, 0, 1));
        CHECK.due(SUPPORT, "replaceFrom by the parent", () -> bom.replaceFrom(0, 7, 0, 1));
        CHECK.due(SUPPORT, "replaceFrom as a long circle", () -> bom.replaceFrom(3, 7, 0, 1));
        CHECK.due(STATE, "replaceFrom too deep", () -> bom.replaceFrom(3, 7, 5, 1));
        CHECK.due(5, "lines after refusals", () -> bom.lines());
        CHECK.due(9, "lastSerial(0) after refusals", () -> bom.lastSerial(0));
        CHECK.due(999, "lastSerial(3) after refusals", () -> bom.lastSerial(3));
        CHECK.due(5, "replaceFrom just deep enough", () -> bom.replaceFrom(2, 999, 5, 1));
        CHECK.due(true, "isConsistent", () -> bom.isConsistent());
    }

    private static void endBefore() {
        BillOfMaterials bom = withParts(3);
        bom.addLine(0, 1, 1, 1, 5, 9);
        CHECK.due(INDEX, "endBefore line 1", () -> bom.endBefore(1, 7));
        CHECK.due(INDEX, "endBefore line -1", () -> bom.endBefore(-1, 7));
        CHECK.due(INDEX, "endBefore line and number wrong", () -> bom.endBefore(1, 0));
        CHECK.due(ARGUMENT, "endBefore the first number", () -> bom.endBefore(0, 5));
        CHECK.due(ARGUMENT, "endBefore behind the last number", () -> bom.endBefore(0, 10));
        CHECK.due(ARGUMENT, "endBefore the least int", () -> bom.endBefore(0, Integer.MIN_VALUE));
        CHECK.due(9, "lastSerial after refusals", () -> bom.lastSerial(0));
        CHECK.due(9, "endBefore the last number", () -> bom.endBefore(0, 9));
        CHECK.due(8, "lastSerial then", () -> bom.lastSerial(0));
        CHECK.due(ARGUMENT, "endBefore the old last number", () -> bom.endBefore(0, 9));
        CHECK.due(8, "endBefore the second number", () -> bom.endBefore(0, 6));
        CHECK.due(5, "lastSerial at last", () -> bom.lastSerial(0));
        CHECK.due(ARGUMENT, "endBefore with one number left", () -> bom.endBefore(0, 5));
        CHECK.due(ARGUMENT, "endBefore behind the one number", () -> bom.endBefore(0, 6));
        CHECK.due(true, "the one number holds", () -> bom.holds(0, 5));
        CHECK.due(false, "the next one doesn't", () -> bom.holds(0, 6));
        CHECK.due(1, "lines after endBefore", () -> bom.lines());
    }

    private static void setScrap() {
        BillOfMaterials bom = withParts(2);
        bom.addLine(0, 1, 1, 1, 1, 999);
        CHECK.due(0, "setScrap 50", () -> bom.setScrap(0, 50));
        CHECK.due(2.5f, "cost with scrap 50", () -> bom.cost(0, 1));
        CHECK.due(50, "setScrap 0", () -> bom.setScrap(0, 0));
        CHECK.due(0, "setScrap 7", () -> bom.setScrap(0, 7));
        CHECK.due(ARGUMENT, "setScrap 51", () -> bom.setScrap(0, 51));
        CHECK.due(ARGUMENT, "setScrap -1", () -> bom.setScrap(0, -1));
        CHECK.due(INDEX, "setScrap of line 1", () -> bom.setScrap(1, 0));
        CHECK.due(INDEX, "setScrap of line -1", () -> bom.setScrap(-1, 0));
        CHECK.due(INDEX, "setScrap line and rate wrong", () -> bom.setScrap(1, 51));
        CHECK.due(7, "setScrap after refusals", () -> bom.setScrap(0, 7));
        CHECK.due(1L, "quantity with scrap", () -> bom.quantity(0, 1, 1));
    }

    private static void holds() {
        BillOfMaterials bom = withParts(2);
        bom.addLine(0, 1, 1, 1, 5, 9);
        bom.addVariant(0, 2, 1, 1, 3, 9);
        CHECK.due(false, "holds before the first", () -> bom.holds(0, 4));
        CHECK.due(true, "holds for the first", () -> bom.holds(0, 5));
        CHECK.due(true, "holds for the last", () -> bom.holds(0, 9));
        CHECK.due(false, "holds behind the last", () -> bom.holds(0, 10));
        boolean[] want = {true, false, false, true};
        for (int choice = 0; choice < 4; choice++) {
            bom.setChoice(3, choice);
            CHECK.due(want[choice], "holds for choice " + choice, () -> bom.holds(1, 1));
        }
        CHECK.due(INDEX, "holds of line 2", () -> bom.holds(2, 1));
        CHECK.due(INDEX, "holds of line -1", () -> bom.holds(-1, 1));
        CHECK.due(INDEX, "holds line and number wrong", () -> bom.holds(2, 0));
        CHECK.due(ARGUMENT, "holds for 0", () -> bom.holds(0, 0));
        CHECK.due(ARGUMENT, "holds for 1000", () -> bom.holds(0, 1000));
    }

    private static void choices() {
        BillOfMaterials bom = withParts(0);
        CHECK.due(0, "setChoice(0, 3)", () -> bom.setChoice(0, 3));
        CHECK.due(0, "setChoice(1, 2)", () -> bom.setChoice(1, 2));
        CHECK.due(0, "setChoice(3, 1)", () -> bom.setChoice(3, 1));
        CHECK.due(3, "setChoice(0, 1)", () -> bom.setChoice(0, 1));
        CHECK.due(INDEX, "setChoice(-1, 0)", () -> bom.setChoice(-1, 0));
        CHECK.due(INDEX, "setChoice(4, 0)", () -> bom.setChoice(4, 0));
        CHECK.due(INDEX, "setChoice(4, 4)", () -> bom.setChoice(4, 4));
        CHECK.due(ARGUMENT, "setChoice(0, 4)", () -> bom.setChoice(0, 4));
        CHECK.due(ARGUMENT, "setChoice(0, -1)", () -> bom.setChoice(0, -1));
        int[] want = {1, 2, 0, 1};
        for (int option = 0; option < 4; option++) {
            int asked = option;
            CHECK.due(want[option], "choice(" + option + ")", () -> bom.choice(asked));
        }
        CHECK.due(INDEX, "choice(-1)", () -> bom.choice(-1));
        CHECK.due(INDEX, "choice(4)", () -> bom.choice(4));
        CHECK.due(true, "isConsistent", () -> bom.isConsistent());
    }
}
