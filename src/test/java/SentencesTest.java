import java.io.IOException;
import java.lang.reflect.InvocationTargetException;
import java.lang.reflect.Method;
import java.nio.file.Path;
import java.util.ArrayList;
import java.util.Arrays;
import java.util.Comparator;
import java.util.List;

/**
 * All promises, sentence by sentence: runs the tests that quote the document, and looks whether each quotation stands
 * there and each sentence of the terms and promises is quoted. Run it from the project's folder.
 */
public final class SentencesTest {
    private static final Path DOCUMENT = Path.of("../shared/DOC.md");
    private static final Class<?>[] TESTS = {FoldEdges.class, PartEdges.class, SheetEdges.class, GlueEdges.class};
    private static final List<String> WITHOUT_TESTS = List.of("What it is", "The public face", "Not promised");

    private static final Check check = new Check();

    private static int ran = 0;

    public static void main(String[] args) throws IOException, IllegalAccessException {
        Document document = Document.read(DOCUMENT);
        List<Says> quotations = new ArrayList<>();
        for (Class<?> tests : TESTS) {
            for (Method test : testsOf(tests)) {
                quotations.add(test.getAnnotation(Says.class));
                run(test);
            }
        }
        lookForQuotations(document, quotations);
        lookForSentencesNotQuoted(document, quotations);
        System.out.println(ran + " tests of sentences");
        check.end();
    }

    private static List<Method> testsOf(Class<?> tests) {
        List<Method> found = new ArrayList<>();
        for (Method method : tests.getDeclaredMethods()) {
            if (method.isAnnotationPresent(Says.class)) {
                found.add(method);
            }
        }
        found.sort(Comparator.comparing(Method::getName));
        return found;
    }

    private static void run(Method test) throws IllegalAccessException {
        int before = check.calls();
        String outcome = "some answers";
        try {
            test.invoke(null, check);
        } catch (InvocationTargetException e) {
            outcome = e.getCause() + " at " + Arrays.asList(e.getCause().getStackTrace());
        }
        ran++;
        String looked = outcome.equals("some answers") && check.calls() == before ? "nothing" : outcome;
        check.compare(test.getName() + ", looking at its answers,", "some answers", looked);
    }

    private static void lookForQuotations(Document document, List<Says> quotations) {
        for (Says quotation : quotations) {
            boolean stands = false;
            for (String sentence : document.sentencesOf(quotation.section())) {
                stands |= sentence.contains(quotation.words());
            }
            check.due("\"" + quotation.words() + "\" of " + quotation.section() + " in the document", true, stands);
        }
    }

    private static void lookForSentencesNotQuoted(Document document, List<Says> quotations) {
        for (String section : document.sections()) {
            for (String sentence : document.sentencesOf(section)) {
                boolean quoted = WITHOUT_TESTS.contains(section);
                for (Says quotation : quotations) {
                    quoted |= quotation.section().equals(section) && sentence.contains(quotation.words());
                }
                check.due("a test of \"" + sentence + "\" of " + section, true, quoted);
            }
        }
    }
}
