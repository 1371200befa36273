import java.io.IOException;
import java.lang.reflect.Method;
import java.util.Arrays;
import java.util.Comparator;
import java.util.Set;
import java.util.TreeSet;

/** Runs the tests that are marked with the sentence of the document that they are of, each sentence with its own. */
public final class SentencesTest {
    private static final Class<?>[] TESTS = {SentencesOfTexts.class, SentencesOfDays.class, SentencesOfPlans.class,
        SentencesOfAnswers.class, SentencesOfActs.class, SentencesOfRest.class};

    public static void main(String[] args) throws IOException, ReflectiveOperationException {
        Document document = new Document();
        Set<String> places = new TreeSet<>();
        Set<String> sentences = new TreeSet<>();
        for (Class<?> tests : TESTS) {
            Method[] methods = tests.getDeclaredMethods();
            Arrays.sort(methods, Comparator.comparing(Method::getName));
            for (Method test : methods) {
                Says says = test.getAnnotation(Says.class);
                if (says != null) {
                    run(document, test, says);
                    Kit.due("has a test of its own", sentences.add(says.at() + says.text()), true);
                    places.add(says.at());
                    document.strikeOut(says.at(), says.text());
                }
            }
        }
        Kit.head("");
        for (String place : document.placesOfPromises()) {
            Kit.due(place + " has a test", places.contains(place), true);
            String left = document.leftOf(place);
            Kit.due(place + " has no words without a test, but for: " + left, left.isEmpty(), true);
        }
        System.out.println(sentences.size() + " sentences");
        Kit.finish("SentencesTest");
    }

    private static void run(Document document, Method test, Says says) throws ReflectiveOperationException {
        Kit.head(says.at() + " \"" + says.text() + "\": ");
        Kit.due("stands in the document", document.says(says.at(), says.text()), true);
        int ahead = Kit.asked();
        test.invoke(null);
        Kit.due("asks for an answer", Kit.asked() > ahead, true);
    }
}
