import java.lang.reflect.Field;
import java.lang.reflect.Method;
import java.lang.reflect.Modifier;
import java.util.Arrays;
import java.util.Set;
import java.util.TreeSet;

/** The public face of the document, and that the class shows nothing else. */
public final class FaceTest {
    private static final Check CHECK = new Check("FaceTest");
    private static final String INDEX = " throws IndexOutOfBoundsException";
    private static final String BOTH = INDEX + ",IllegalArgumentException";
    private static final String BOTH_AND_ELEMENT = BOTH + ",NoSuchElementException";
    private static final String LINE = BOTH + ",UnsupportedOperationException,IllegalStateException";

    private static final String[] METHODS = {
        "int addPart(char,int,int) throws IllegalArgumentException,IllegalStateException",
        "int setPrice(int,int)" + BOTH,
        "int setGrams(int,int)" + BOTH,
        "char setKind(int,char)" + BOTH,
        "int parts()",
        "char kind(int)" + INDEX,
        "int addLine(int,int,int,int,int,int)" + LINE,
        "int addVariant(int,int,int,int,int,int)" + LINE,
        "int replaceFrom(int,int,int,int)" + LINE,
        "int endBefore(int,int)" + BOTH,
        "int setScrap(int,int)" + BOTH,
        "int lines()",
        "int lastSerial(int)" + INDEX,
        "boolean holds(int,int)" + BOTH,
        "int setChoice(int,int)" + BOTH,
        "int choice(int)" + INDEX,
        "int listSize(int,int)" + BOTH,
        "int listPart(int,int,int)" + BOTH_AND_ELEMENT,
        "long listQuantity(int,int,int)" + BOTH_AND_ELEMENT,
        "int writeList(int,int)" + BOTH,
        "char charAt(int)" + INDEX,
        "long quantity(int,int,int)" + BOTH,
        "long quantityByWalking(int,int,int)" + BOTH,
        "int whereUsed(int,int)" + BOTH,
        "int levels(int,int)" + BOTH,
        "float cost(int,int)" + BOTH,
        "float costByWalking(int,int)" + BOTH,
        "int costBits(int,int)" + BOTH,
        "int costCents(int,int)" + BOTH,
        "int dearest(int,int)" + BOTH_AND_ELEMENT,
        "double weight(int,int)" + BOTH,
        "long weightBits(int,int)" + BOTH,
        "int markCosts(int) throws IllegalArgumentException",
        "float costChange(int,int)" + BOTH_AND_ELEMENT,
        "int order(int,int,int)" + BOTH + ",IllegalStateException",
        "int cancel(int)" + INDEX + ",IllegalStateException",
        "float orderCost(int)" + INDEX,
        "long need(int)" + INDEX,
        "boolean isConsistent()",
    };

    public static void main(String[] args) {
        Class<?> face = BillOfMaterials.class;
        CHECK.due(Modifier.PUBLIC | Modifier.FINAL, "the class's modifiers", () -> face.getModifiers());
        CHECK.due(new TreeSet<>(Set.of(METHODS)), "the methods", () -> shownMethods(face));
        CHECK.due("[public BillOfMaterials()]", "the constructors",
                () -> Arrays.toString(face.getDeclaredConstructors()));
        for (Field field : face.getDeclaredFields()) {
            CHECK.due(true, "private: " + field, () -> Modifier.isPrivate(field.getModifiers()));
            CHECK.due(true, "final if static: " + field,
                    () -> !Modifier.isStatic(field.getModifiers()) || Modifier.isFinal(field.getModifiers()));
        }
        for (Class<?> inner : face.getDeclaredClasses()) {
            CHECK.due(true, "not open: " + inner,
                    () -> !Modifier.isPublic(inner.getModifiers()) && !Modifier.isProtected(inner.getModifiers()));
        }
        CHECK.finish();
    }

    private static Set<String> shownMethods(Class<?> face) {
        Set<String> shown = new TreeSet<>();
        for (Method method : face.getDeclaredMethods()) {
            if (!Modifier.isPrivate(method.getModifiers())) {
                shown.add(method.toString().replaceFirst("^public ", "").replace("BillOfMaterials.", "")
                        .replaceAll("java\\.(lang|util)\\.", ""));
            }
        }
        return shown;
    }
}
