import java.lang.reflect.Constructor;
import java.lang.reflect.Field;
import java.lang.reflect.Method;
import java.lang.reflect.Modifier;
import java.util.Set;
import java.util.TreeSet;

/** The public face is the document's, and nothing else of the class can be seen (LANGUAGE.md 1 and 5). */
public final class FaceTest {
    private static final String[] METHODS = {
        "line(int,int,int,int)", "change(int,int,int,int,int)", "drop()", "start(int,int,boolean)", "points(int,int)",
        "input(int,int)", "run(int,int)", "seen()", "saw(int)", "left(int)", "slice(int,int)", "follows(int)",
        "causes(int)", "cause(int,int,int)", "chop(int,int)", "way(int,int)", "on(int)", "same(int)", "test()",
        "untest()", "least(int)", "count(int)"};

    public static void main(String[] args) throws Exception {
        Checks.due("public and final", SliceWhy.class.getModifiers(), Modifier.PUBLIC | Modifier.FINAL);
        methods();
        fields();
        Constructor<?>[] all = SliceWhy.class.getDeclaredConstructors();
        Checks.due("constructors", all.length, 1);
        Checks.due("constructor's parameters", all[0].getParameterCount(), 0);
        Checks.due("constructor's modifiers", all[0].getModifiers(), Modifier.PUBLIC);
        for (Class<?> inside : SliceWhy.class.getDeclaredClasses()) {
            Checks.due(inside.getName() + " static", Modifier.isStatic(inside.getModifiers()) ? 1 : 0, 1);
            Checks.due(inside.getName() + " public", Modifier.isPublic(inside.getModifiers()) ? 1 : 0, 0);
        }
        Checks.end("FaceTest");
    }

    private static void methods() {
        Set<String> want = new TreeSet<>(Set.of(METHODS));
        Set<String> names = new TreeSet<>();
        for (String method : METHODS) {
            names.add(method.substring(0, method.indexOf('(')));
        }
        for (Method m : SliceWhy.class.getDeclaredMethods()) {
            String text = m.toString();
            String form = m.getName() + text.substring(text.indexOf('('));
            if (Modifier.isPrivate(m.getModifiers())) {
                Checks.due(form + " bears a public name", names.contains(m.getName()) ? 1 : 0, 0);
            } else {
                Checks.due(form + " is in the document", want.remove(form) ? 1 : 0, 1);
                Checks.due(form + " is public", m.getModifiers(), Modifier.PUBLIC);
                Checks.due(form + " answers an int", m.getReturnType() == int.class ? 1 : 0, 1);
            }
        }
        Checks.due("methods that are missing: " + want, want.size(), 0);
    }

    private static void fields() throws Exception {
        int seen = 0;
        for (Field f : SliceWhy.class.getDeclaredFields()) {
            int m = f.getModifiers();
            if (!Modifier.isPrivate(m)) {
                seen++;
                Checks.due(f.getName(), m, Modifier.PUBLIC | Modifier.STATIC | Modifier.FINAL);
            }
            if (Modifier.isStatic(m)) {
                Checks.due(f.getName() + " final", Modifier.isFinal(m) ? 1 : 0, 1);
            }
        }
        Checks.due("constants", seen, 4);
        Checks.due("BAD", SliceWhy.class.getField("BAD").getInt(null), -1);
        Checks.due("FULL", SliceWhy.class.getField("FULL").getInt(null), -2);
        Checks.due("STATE", SliceWhy.class.getField("STATE").getInt(null), -3);
        Checks.due("NONE", SliceWhy.class.getField("NONE").getInt(null), -4);
    }
}
