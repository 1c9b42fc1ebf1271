import java.lang.reflect.Constructor;
import java.lang.reflect.Field;
import java.lang.reflect.Method;
import java.lang.reflect.Modifier;
import java.util.Set;
import java.util.TreeSet;

/** The public face of the document, and that the class shows nothing beside it. */
public final class FaceTest {
    private static final Check check = new Check();

    public static void main(String[] args) {
        check.test("the face of the document and nothing beside it", FaceTest::face);
        check.test("the class is public and final", FaceTest::publicAndFinal);
        check.end();
    }

    private static void face() {
        Set<String> shown = new TreeSet<>();
        for (Method method : SeedChainer.class.getDeclaredMethods()) {
            if (!Modifier.isPrivate(method.getModifiers())) {
                shown.add(method.toString());
            }
        }
        for (Field field : SeedChainer.class.getDeclaredFields()) {
            if (!Modifier.isPrivate(field.getModifiers())) {
                shown.add(field.toString());
            }
        }
        for (Constructor<?> constructor : SeedChainer.class.getDeclaredConstructors()) {
            shown.add(constructor.toString());
        }
        check.same("the face", String.join("\n", shown), String.join("\n", due()));
    }

    private static void publicAndFinal() {
        check.due("modifiers", SeedChainer.class.getModifiers(), Modifier.PUBLIC | Modifier.FINAL);
    }

    private static Set<String> due() {
        Set<String> due = new TreeSet<>();
        due.add("public static final int SeedChainer.NONE");
        due.add("public SeedChainer()");
        due.add("public int SeedChainer.put(int,int)");
        due.add("public int SeedChainer.cut(int)");
        due.add("public int SeedChainer.letter(int,int)");
        due.add("public boolean SeedChainer.seeds(int)");
        due.add("public boolean SeedChainer.penalty(int)");
        due.add("public boolean SeedChainer.scores(int,int,int,int)");
        due.add("public int SeedChainer.anchors()");
        due.add("public int SeedChainer.anchor(int,int)");
        due.add("public int SeedChainer.chain()");
        due.add("public int SeedChainer.links()");
        due.add("public int SeedChainer.link(int,int)");
        due.add("public int SeedChainer.reach(int,int)");
        due.add("public int SeedChainer.reached(int)");
        return due;
    }
}
