import java.lang.reflect.Constructor;
import java.lang.reflect.Field;
import java.lang.reflect.Method;
import java.lang.reflect.Modifier;
import java.nio.file.Files;
import java.nio.file.Path;
import java.util.Arrays;
import java.util.TreeSet;

/** The public face, and those rules of LANGUAGE.md that can be seen in the text. Argument: the source. */
public final class FaceTest {
    private static final String[] FACE = {"boolean feed(int,int,int,int,int)", "boolean end(int)", "int read()",
        "int fault(int)", "int duty(int,int)", "boolean fill(int,int)", "boolean chamber(int,int)",
        "boolean berth(int,int)", "int run(int,int,int,int)", "int told(int)", "int log(int,int)",
        "int look(int,int)"};
    private static final String[] RULED_OUT = {"import ", "package ", "finally", "synchronized", "assert ", "->", "::",
        "catch", "static {", "hashCode", "toString", "equals(", "System.", "Object", "instanceof", "native",
        "protected", "volatile", "transient", "Exact"};

    private FaceTest() {
    }

    public static void main(String[] args) throws Exception {
        Class<?> c = LockKeepers.class;
        Check.due("public and final", c.getModifiers(), Modifier.PUBLIC | Modifier.FINAL);
        TreeSet<String> found = new TreeSet<>();
        TreeSet<String> inside = new TreeSet<>();
        for (Method m : c.getDeclaredMethods()) {
            if (Modifier.isPrivate(m.getModifiers())) {
                inside.add(m.getName());
            } else {
                String types = Arrays.toString(m.getParameterTypes()).replaceAll("[\\[\\] ]", "");
                found.add(m.getReturnType() + " " + m.getName() + "(" + types + ")");
            }
        }
        Check.due("the methods " + found, found.equals(new TreeSet<>(Arrays.asList(FACE))), true);
        for (Field f : c.getDeclaredFields()) {
            boolean shown = !Modifier.isPrivate(f.getModifiers());
            Check.due("field " + f.getName(), shown, f.getName().equals("NONE"));
        }
        Constructor<?>[] constructors = c.getDeclaredConstructors();
        Check.due("one constructor", constructors.length, 1);
        Check.due("public", Modifier.isPublic(constructors[0].getModifiers()), true);
        Check.due("some twelve classes", 1 + c.getDeclaredClasses().length <= 12, true);
        for (Class<?> nested : c.getDeclaredClasses()) {
            Check.due(nested + " is static", Modifier.isStatic(nested.getModifiers()), true);
            int fields = 0;
            for (Field f : nested.getDeclaredFields()) {
                fields += Modifier.isStatic(f.getModifiers()) ? 0 : 1;
                boolean still = !Modifier.isStatic(f.getModifiers()) || Modifier.isFinal(f.getModifiers());
                Check.due(nested + "." + f.getName() + " is no changing static", still, true);
            }
            Check.due(nested + " has some twenty fields", fields <= 20, true);
            for (Method m : nested.getDeclaredMethods()) {
                inside.add(m.getName());
                Check.due(m + " has seven parameters at most", m.getParameterCount() <= 7, true);
            }
        }
        for (String method : FACE) {
            String name = method.substring(method.indexOf(' ') + 1, method.indexOf('('));
            Check.due("no other method is named " + name, inside.contains(name), false);
        }
        source(Files.readString(Path.of(args[0])).replaceAll("(?s)/\\*.*?\\*/", ""));
        Check.finish("FaceTest");
    }

    private static void source(String text) {
        for (String word : RULED_OUT) {
            Check.due("the source has " + word, text.contains(word), false);
        }
        int at = text.indexOf("throw new");
        int throwsFound = 0;
        while (at >= 0) {
            throwsFound++;
            boolean known = text.startsWith("IllegalStateException()", at + 10)
                    || text.startsWith("IllegalArgumentException()", at + 10);
            Check.due("a throw of run's", known, true);
            at = text.indexOf("throw new", at + 1);
        }
        Check.due("run's throws", throwsFound, 2);
    }
}
