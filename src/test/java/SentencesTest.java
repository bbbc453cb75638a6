import java.lang.reflect.InvocationTargetException;
import java.lang.reflect.Method;
import java.nio.file.Path;
import java.util.Arrays;
import java.util.Comparator;

/**
 * Runs the tests that stand for a sentence of the document, and looks whether the document has each of these sentences,
 * and whether each of its words, in the terms and in the promises 1 to 25, is quoted by a test.
 */
public final class SentencesTest {
    private static final Check CHECK = new Check("SentencesTest");
    private static final Tests[] ALL = {new OfTerms(), new OfAMinute(), new OfTexts(), new OfChanges(), new OfLooks(), new OfWhatIfs(),
        new OfHistory()};

    /** Heading and words of what says nothing that a call could answer otherwise. */
    private static final String[][] NOT_TESTED = {
        {"Terms", "CONVENTIONS."},
        {"Settings", "(In parentheses: range; first value.)"},
        {"Texts", "Ahead of the calls `set`, `stream`, `write`, `sell`, `giveBack`, `pass` the interface says: ---- changes."},
        {"Texts", "Ahead of the calls `ofDrive`, `hour`, `streak`, `share`, `mean`, `count` the interface says: ---- what there is."},
        {"Texts", "Ahead of the calls `loudIn`, `freeIn`, `mostHeld`, `firstSafe`, `leastRoom`"},
        {"Texts", "Ahead of the calls `put`, `wipe`, `fault`, `carryOut` the interface says: ---- texts."},
        {"Texts", "Ahead of the calls `undo`, `save`, `restore` the interface says: ---- undo, saving."}};

    public static void main(String[] args) throws Exception {
        Document document = Document.read(Path.of("..", "shared", "DOC.md"));
        int tests = 0;
        for (Tests of : ALL) {
            Method[] methods = of.getClass().getDeclaredMethods();
            Arrays.sort(methods, Comparator.comparing(Method::getName));
            for (Method method : methods) {
                if (method.isAnnotationPresent(Sentence.class)) {
                    tests++;
                    run(of, method, document);
                }
            }
        }
        System.out.println("SentencesTest: " + tests + " tests, of sentences under " + document.headings() + " headings");
        for (String[] words : NOT_TESTED) {
            CHECK.due("the document has, under " + words[0] + ": " + words[1], document.quote(words[0], words[1]) ? 1 : 0, 1);
        }
        for (String stretch : document.unquoted()) {
            CHECK.same("what no test stands for", stretch, "");
        }
        CHECK.end();
    }

    private static void run(Tests of, Method method, Document document) throws IllegalAccessException {
        Sentence sentence = method.getAnnotation(Sentence.class);
        String name = of.getClass().getName() + "." + method.getName();
        CHECK.due("the document has, under " + sentence.in() + ": " + sentence.says() + " (" + name + ")",
                document.quote(sentence.in(), sentence.says()) ? 1 : 0, 1);
        int checked = CHECK.checked();
        int wrong = CHECK.wrong();
        of.begin(CHECK);
        try {
            method.invoke(of);
        } catch (InvocationTargetException thrown) {
            CHECK.same("what " + name + " met", String.valueOf(thrown.getCause()), "nothing thrown");
        }
        CHECK.due("answers looked at by " + name, CHECK.checked() > checked ? 1 : 0, 1);
        if (CHECK.wrong() > wrong) {
            System.out.println("  ^ " + name + ", for " + sentence.in() + ": " + sentence.says());
        }
    }
}
