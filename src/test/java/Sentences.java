import java.io.IOException;
import java.nio.file.Files;
import java.nio.file.Path;
import java.util.ArrayList;
import java.util.LinkedHashMap;
import java.util.List;
import java.util.Map;
import java.util.Set;
import java.util.TreeSet;
import java.util.function.Consumer;
import java.util.function.Supplier;

/**
 * Tests that each name a section of the document and a sentence in it. A sentence that the document does not have
 * fails, and so does, at the end, a sentence of the document that no test names.
 */
final class Sentences {
    static final Class<?> INDEX = IndexOutOfBoundsException.class;
    static final Class<?> ARGUMENT = IllegalArgumentException.class;
    static final Class<?> CIRCLE = UnsupportedOperationException.class;
    static final Class<?> STATE = IllegalStateException.class;
    static final Class<?> ELEMENT = java.util.NoSuchElementException.class;

    interface Call {
        Object answer(BillOfMaterials bom);
    }

    private final Map<String, List<String>> document = new LinkedHashMap<>();
    private final Set<String> named = new TreeSet<>();
    private String section = "";
    private String sentence = "";
    private int tests;
    private int answers;
    private int failures;

    Sentences(Path path) throws IOException {
        if (Files.exists(path)) {
            read(Files.readAllLines(path));
        } else {
            System.out.println("SentencesTest: no " + path + ", so the sentences are not looked up in it");
        }
    }

    private void read(List<String> lines) {
        boolean code = false;
        List<String> sentences = null;
        for (String line : lines) {
            if (line.startsWith("```")) {
                code = !code;
            } else if (line.startsWith("## ")) {
                sentences = new ArrayList<>();
                document.put(line.substring(3), sentences);
            } else if (!code && sentences != null && !line.isBlank()) {
                sentences.addAll(List.of(withoutHead(line).split("(?<=[.])\\s+(?=[A-Z])")));
            }
        }
    }

    /** Without the sign of a list, the declaration of a call, or the one or two words that head a paragraph. */
    private static String withoutHead(String line) {
        return line.startsWith("- ") ? line.substring(2)
                : line.replaceFirst("^`[^`]*`: ", "").replaceFirst("^[A-Z][a-z]+( [a-z]+)?\\. (?=[A-Z])", "");
    }

    void section(String heading) {
        section = heading;
        if (!document.isEmpty() && !document.containsKey(heading)) {
            fail("the document has no section " + heading);
        }
    }

    /** A test of the sentence; several tests may name the same one. */
    void test(String text, Consumer<Sentences> test) {
        name(text);
        tests++;
        int before = answers;
        test.accept(this);
        if (answers == before) {
            fail("nothing was asked");
        }
    }

    /** Names a sentence that says nothing about any answer. */
    void noTest(String text) {
        name(text);
    }

    private void name(String text) {
        sentence = text;
        named.add(section + ", \"" + text + "\"");
        if (!document.isEmpty() && !document.getOrDefault(section, List.of()).contains(text)) {
            fail("the document has no such sentence");
        }
    }

    private void fail(String what) {
        failures++;
        System.out.println(section + ", \"" + sentence + "\": " + what);
    }

    void due(Object want, String what, Check.Call call) {
        Object got = Check.answerOf(call);
        answers++;
        if (!want.equals(got)) {
            fail(what + " answered " + got + ", due is " + want);
        }
    }

    void due(Object want, String what, BillOfMaterials bom, Call call) {
        due(want, what, () -> call.answer(bom));
    }

    /** The call throws the exception, and the object then answers every question as one that never had the call. */
    void refused(Class<?> want, String what, Supplier<BillOfMaterials> made, Call call) {
        BillOfMaterials bom = made.get();
        due(want, what, bom, call);
        List<String> without = Portrait.of(made.get());
        List<String> with = Portrait.of(bom);
        for (int i = 0; i < Math.max(without.size(), with.size()); i++) {
            String a = i < without.size() ? without.get(i) : "nothing";
            String b = i < with.size() ? with.get(i) : "nothing";
            if (!a.equals(b)) {
                fail(what + " was refused, but afterwards " + b + ", without it " + a);
                return;
            }
        }
    }

    void finish() {
        document.forEach((heading, sentences) -> {
            for (String text : sentences) {
                if (!named.contains(heading + ", \"" + text + "\"")) {
                    failures++;
                    System.out.println(heading + ", \"" + text + "\": no test names it");
                }
            }
        });
        System.out.println("SentencesTest: " + tests + " tests of " + named.size() + " sentences, " + answers
                + " answers asked, " + failures + " failures");
        if (failures > 0 || tests == 0) {
            System.exit(1);
        }
    }
}
