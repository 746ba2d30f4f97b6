import java.lang.reflect.Constructor;
import java.lang.reflect.Field;
import java.lang.reflect.Method;
import java.lang.reflect.Modifier;
import java.util.Set;
import java.util.TreeSet;

/** The public face is the document's, and nothing else of the class can be seen (LANGUAGE.md 1 and 5). */
public final class FaceTest extends Checks {
    private static final String[] METHODS = {
        "line(int,int,int,int)", "change(int,int,int,int,int)", "drop()", "start(int,int,boolean)", "points(int,int)",
        "input(int,int)", "run(int,int)", "seen()", "saw(int)", "left(int)", "slice(int,int)", "follows(int)",
        "causes(int)", "cause(int,int,int)", "chop(int,int)", "way(int,int)", "on(int)", "same(int)", "test()",
        "untest()", "least(int)", "count(int)"};

    public static void main(String[] args) throws Exception {
        due("public and final", SliceWhy.class.getModifiers(), Modifier.PUBLIC | Modifier.FINAL);
        methods();
        fields();
        Constructor<?>[] all = SliceWhy.class.getDeclaredConstructors();
        due("constructors", all.length, 1);
        due("constructor's parameters", all[0].getParameterCount(), 0);
        due("constructor's modifiers", all[0].getModifiers(), Modifier.PUBLIC);
        for (Class<?> inside : SliceWhy.class.getDeclaredClasses()) {
            due(inside.getName() + " static", Modifier.isStatic(inside.getModifiers()) ? 1 : 0, 1);
            due(inside.getName() + " public", Modifier.isPublic(inside.getModifiers()) ? 1 : 0, 0);
        }
        end("FaceTest");
    }

    private static void methods() {
        Set<String> want = new TreeSet<>(Set.of(METHODS));
        Set<String> names = new TreeSet<>();
        for (String method : METHODS) {
            names.add(method.substring(0, method.indexOf('(')));
        }
        for (Method m : SliceWhy.class.getDeclaredMethods()) {
            String text = m.toString();
            String form = m.getName() + text.substring(text.indexOf('('));
            if (Modifier.isPrivate(m.getModifiers())) {
                due(form + " bears a public name", names.contains(m.getName()) ? 1 : 0, 0);
            } else {
                due(form + " is in the document", want.remove(form) ? 1 : 0, 1);
                due(form + " is public", m.getModifiers(), Modifier.PUBLIC);
                due(form + " answers an int", m.getReturnType() == int.class ? 1 : 0, 1);
            }
        }
        due("methods that are missing: " + want, want.size(), 0);
    }

    private static void fields() throws Exception {
        int seen = 0;
        for (Field f : SliceWhy.class.getDeclaredFields()) {
            int m = f.getModifiers();
            if (!Modifier.isPrivate(m)) {
                seen++;
                due(f.getName(), m, Modifier.PUBLIC | Modifier.STATIC | Modifier.FINAL);
            }
            if (Modifier.isStatic(m)) {
                due(f.getName() + " final", Modifier.isFinal(m) ? 1 : 0, 1);
            }
        }
        due("constants", seen, 4);
        due("BAD", SliceWhy.class.getField("BAD").getInt(null), -1);
        due("FULL", SliceWhy.class.getField("FULL").getInt(null), -2);
        due("STATE", SliceWhy.class.getField("STATE").getInt(null), -3);
        due("NONE", SliceWhy.class.getField("NONE").getInt(null), -4);
    }
}
