import java.util.ArrayList;
import java.util.List;

/**
 * All that can be learnt of an object by asking it, as one row for each answer. The object is used up by it: what is
 * not told by any question is told by the previous values that changes return.
 */
final class Portrait {
    // An object's answers are promised for 512 calls; what made the object needs some of them.
    private static final int MOST_CALLS = 400;
    private static final int[] SERIALS = {1, 500, 999};

    private final BillOfMaterials bom;
    private final List<String> rows = new ArrayList<>();

    private Portrait(BillOfMaterials bom) {
        this.bom = bom;
    }

    static List<String> of(BillOfMaterials bom) {
        Portrait portrait = new Portrait(bom);
        portrait.draw();
        if (portrait.rows.size() > MOST_CALLS) {
            throw new AssertionError("too many calls for one object: " + portrait.rows.size());
        }
        return portrait.rows;
    }

    private Object ask(String what, Check.Call call) {
        Object answer = Check.answerOf(call);
        rows.add(what + " answers " + answer);
        return answer;
    }

    private void draw() {
        int parts = (int) ask("parts()", () -> bom.parts());
        int lines = (int) ask("lines()", () -> bom.lines());
        ask("isConsistent()", () -> bom.isConsistent());
        for (int option = 0; option < 4; option++) {
            int asked = option;
            ask("choice(" + asked + ")", () -> bom.choice(asked));
        }
        drawOutput();
        drawParts(parts);
        drawLines(lines);
        int orders = drawOrders(parts);
        drawPreviousValues(parts, lines, orders);
        if (parts <= 6 && lines <= 9) {
            drawConditions(lines);
            drawStructure(parts);
        }
        ask("addPart('b', 7, 9)", () -> bom.addPart('b', 7, 9));
    }

    private void drawOutput() {
        for (int i = 0; i < 40; i++) {
            int asked = i;
            if (ask("charAt(" + asked + ")", () -> bom.charAt(asked)) instanceof Class) {
                return;
            }
        }
    }

    private void drawParts(int parts) {
        for (int i = 0; i < parts; i++) {
            int part = i;
            ask("kind(" + part + ")", () -> bom.kind(part));
            ask("costChange(" + part + ", 1)", () -> bom.costChange(part, 1));
            ask("weight(" + part + ", 500)", () -> bom.weight(part, 500));
            for (int serial : SERIALS) {
                ask("cost(" + part + ", " + serial + ")", () -> bom.cost(part, serial));
            }
        }
    }

    private void drawLines(int lines) {
        for (int i = 0; i < lines; i++) {
            int line = i;
            ask("lastSerial(" + line + ")", () -> bom.lastSerial(line));
            ask("holds(" + line + ", 1)", () -> bom.holds(line, 1));
            ask("holds(" + line + ", 500)", () -> bom.holds(line, 500));
        }
    }

    private int drawOrders(int parts) {
        for (int i = 0; i < parts; i++) {
            int part = i;
            ask("need(" + part + ")", () -> bom.need(part));
        }
        int orders = 0;
        for (int i = 0; i < 8; i++) {
            int order = i;
            if (ask("orderCost(" + order + ")", () -> bom.orderCost(order)) instanceof Class) {
                break;
            }
            orders++;
        }
        return orders;
    }

    private void drawPreviousValues(int parts, int lines, int orders) {
        for (int i = 0; i < orders; i++) {
            int order = i;
            ask("cancel(" + order + ")", () -> bom.cancel(order));
        }
        ask("order(0, 1, 1)", () -> bom.order(0, 1, 1));
        for (int i = 0; i < parts; i++) {
            int part = i;
            ask("setPrice(" + part + ", 7)", () -> bom.setPrice(part, 7));
            ask("setGrams(" + part + ", 9)", () -> bom.setGrams(part, 9));
        }
        for (int i = 0; i < lines; i++) {
            int line = i;
            ask("setScrap(" + line + ", 0)", () -> bom.setScrap(line, 0));
        }
    }

    private void drawConditions(int lines) {
        for (int i = 0; i < 16; i++) {
            int option = i / 4;
            int choice = (i + 1) % 4;
            ask("setChoice(" + option + ", " + choice + ")", () -> bom.setChoice(option, choice));
            for (int k = 0; k < lines; k++) {
                int line = k;
                ask("holds(" + line + ", 1)", () -> bom.holds(line, 1));
            }
        }
    }

    private void drawStructure(int parts) {
        for (int i = 0; i < parts * parts; i++) {
            int parent = i / parts;
            int child = i % parts;
            ask("addLine(" + parent + ", 6, " + child + ", 1, 999, 999)",
                    () -> bom.addLine(parent, 6, child, 1, 999, 999));
        }
    }
}
