import java.lang.reflect.Constructor;
import java.lang.reflect.Method;
import java.util.ArrayList;
import java.util.Comparator;
import java.util.List;

/** Each sentence of the document: a case of its own, that cites its words; no word is left uncited. */
public final class SentencesTest {
    private static final List<Class<? extends Boundaries>> SUITES = List.of(
            PictureBoundaries.class, ActBoundaries.class, LineBoundaries.class, WayBoundaries.class,
            MarkBoundaries.class, SheetBoundaries.class, PartBoundaries.class,
            AnswerSentences.class, ChangeSentences.class);

    private final Check check = new Check();
    private final Document document;

    private SentencesTest(Document document) {
        this.document = document;
    }

    public static void main(String[] args) throws Exception {
        SentencesTest test = new SentencesTest(new Document());
        int cases = 0;
        for (Class<? extends Boundaries> suite : SUITES) {
            for (Method method : casesOf(suite)) {
                test.run(suite, method);
                cases++;
            }
        }
        test.nothingIsLeftOut();
        System.out.println(cases + " cases");
        test.check.finish();
    }

    private static List<Method> casesOf(Class<?> suite) {
        List<Method> cases = new ArrayList<>();
        for (Method method : suite.getDeclaredMethods()) {
            if (method.isAnnotationPresent(Says.class)) {
                cases.add(method);
            }
        }
        cases.sort(Comparator.comparing((Method method) -> method.getAnnotation(Says.class).promise())
                .thenComparing(Method::getName));
        return cases;
    }

    private void run(Class<? extends Boundaries> suite, Method method) throws Exception {
        Says says = method.getAnnotation(Says.class);
        check.about("promise " + says.promise() + ", " + method.getName());
        for (String words : says.words()) {
            check.holds(document.cite(says.promise(), words), "the document says '" + words + "'");
        }
        Constructor<? extends Boundaries> constructor = suite.getDeclaredConstructor();
        Boundaries one = constructor.newInstance();
        one.check = check;
        method.setAccessible(true);
        method.invoke(one);
    }

    private void nothingIsLeftOut() {
        for (int section = 0; section <= document.promises(); section++) {
            check.about(section == 0 ? "the terms" : "promise " + section);
            for (String words : document.uncited(section)) {
                check.holds(false, "a case for '" + words + "'");
            }
        }
    }
}
