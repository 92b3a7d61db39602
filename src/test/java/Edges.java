import java.io.IOException;
import java.lang.reflect.InvocationTargetException;
import java.lang.reflect.Method;
import java.lang.reflect.Modifier;
import java.nio.file.Files;
import java.nio.file.Path;
import java.util.ArrayList;
import java.util.Comparator;
import java.util.List;

/** Runs the tests of boundary cases: each method that is marked with Holds is one. */
final class Edges {
    private Edges() {
    }

    /** Ends the program with 1 if one of the class's tests fails, or holds to words that are not the document's. */
    static void run(Class<?> tests) throws IOException, IllegalAccessException {
        List<Method> methods = marked(tests);
        for (Method test : methods) {
            Holds held = test.getAnnotation(Holds.class);
            String term = held.term() == 0 ? "" : " (term " + held.term() + ")";
            Check.about(test.getName() + ", promise " + held.promise() + term + " '" + held.says() + "': ");
            Check.due("is a sentence of the document", isInDocument(held), true);
            invoke(test);
        }
        Check.about("");
        Check.due("has tests", !methods.isEmpty(), true);
        System.out.println(tests.getName() + ": " + methods.size() + " cases");
        Check.finish(tests.getName());
    }

    static List<Method> marked(Class<?> tests) {
        List<Method> methods = new ArrayList<>();
        for (Method method : tests.getDeclaredMethods()) {
            boolean isCase = Modifier.isStatic(method.getModifiers()) && method.getParameterCount() == 0;
            if (isCase && method.isAnnotationPresent(Holds.class)) {
                methods.add(method);
            }
        }
        methods.sort(Comparator.comparing(Method::getName));
        return methods;
    }

    private static void invoke(Method test) throws IllegalAccessException {
        int asked = Check.asked();
        try {
            test.invoke(null);
        } catch (InvocationTargetException e) {
            e.getCause().printStackTrace(System.out);
            Check.due("threw " + e.getCause(), false, true);
        }
        Check.due("asks something", Check.asked() > asked, true);
    }

    /** Where the document can't be read (the property is not set) its words are not compared. */
    private static boolean isInDocument(Holds held) throws IOException {
        String path = System.getProperty("document");
        if (path == null) {
            return true;
        }
        String text = plain(Files.readString(Path.of(path)));
        int from = text.indexOf(beginning(held));
        int end = text.indexOf(held.term() == 0 ? "## " : " ## Promise 1:", from + 3);
        return from >= 0 && end > from && text.substring(from, end).contains(plain(held.says()));
    }

    private static String beginning(Holds held) {
        if (held.term() != 0) {
            return " " + held.term() + ". ";
        }
        return held.promise() == 0 ? "## What it is" : "## Promise " + held.promise() + ":";
    }

    static String plain(String text) {
        return text.replaceAll("\\s+", " ");
    }
}
