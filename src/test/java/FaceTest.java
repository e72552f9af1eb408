import java.lang.reflect.Constructor;
import java.lang.reflect.Field;
import java.lang.reflect.Method;
import java.lang.reflect.Modifier;
import java.util.Arrays;
import java.util.List;
import java.util.Set;
import java.util.TreeSet;
import java.util.stream.Collectors;
import java.util.stream.Stream;

/** The public face is that of the document and no more; the class keeps LANGUAGE.md's rules on its shape. */
public final class FaceTest {
    private static final Set<String> FACE = new TreeSet<>(List.of(
        "int NONE", "int FULL", "int FEW", "new(int,int,int)",
        "int produce(int,int)", "int commit(int,int)", "int readable(int,int)", "int committed(int)",
        "boolean fetch(int)", "boolean deliver(int)", "boolean lose(int)", "int flight()",
        "int message(int,int)", "int review(int)", "boolean learn(int)", "boolean crash(int)",
        "boolean restart(int)", "boolean govern(int)", "boolean tick(int)", "int controller(int)",
        "int broker(int,int)", "int epochAt(int,int)", "int valueAt(int,int)"));

    private final Checks checks = new Checks();

    public static void main(String[] args) {
        FaceTest test = new FaceTest();
        test.face();
        test.shape(InSyncLog.class);
        for (Class<?> inside : InSyncLog.class.getDeclaredClasses()) {
            test.inside(inside);
            test.shape(inside);
        }
        test.checks.finish();
    }

    private void face() {
        checks.part("the face");
        Set<String> found = new TreeSet<>();
        for (Field f : InSyncLog.class.getDeclaredFields()) {
            if (!Modifier.isPrivate(f.getModifiers())) {
                checks.due(f + " is a public constant", true,
                        Modifier.toString(f.getModifiers()).equals("public static final"));
                found.add(f.getType() + " " + f.getName());
            }
        }
        for (Constructor<?> c : InSyncLog.class.getDeclaredConstructors()) {
            checks.due(c + " is public", true, Modifier.isPublic(c.getModifiers()));
            found.add("new" + types(c.getParameterTypes()));
        }
        for (Method m : InSyncLog.class.getDeclaredMethods()) {
            if (!Modifier.isPrivate(m.getModifiers())) {
                checks.due(m + " is public alone", true, Modifier.toString(m.getModifiers()).equals("public"));
                found.add(m.getReturnType() + " " + m.getName() + types(m.getParameterTypes()));
            }
        }
        Stream.concat(FACE.stream(), found.stream())
            .forEach(member -> checks.due(member + " in the document and the class", true,
                    FACE.contains(member) && found.contains(member)));
        checks.due("the class is public and final", true,
                Modifier.toString(InSyncLog.class.getModifiers()).equals("public final"));
    }

    private static String types(Class<?>[] types) {
        return Arrays.stream(types).map(Class::getSimpleName).collect(Collectors.joining(",", "(", ")"));
    }

    private void inside(Class<?> inside) {
        checks.part("inside, " + inside.getSimpleName());
        checks.due("static", true, Modifier.isStatic(inside.getModifiers()));
        checks.due("private or package-visible", false,
                Modifier.isPublic(inside.getModifiers()) || Modifier.isProtected(inside.getModifiers()));
    }

    private void shape(Class<?> type) {
        checks.part("shape of " + type.getSimpleName());
        int fields = 0;
        for (Field f : type.getDeclaredFields()) {
            if (Modifier.isStatic(f.getModifiers())) {
                checks.due(f + " is final", true, Modifier.isFinal(f.getModifiers()));
            } else {
                fields++;
            }
        }
        checks.due("at most twenty fields", true, fields <= 20);
        Set<String> names = Arrays.stream(InSyncLog.class.getDeclaredMethods())
            .filter(m -> Modifier.isPublic(m.getModifiers()))
            .map(Method::getName).collect(Collectors.toSet());
        for (Method m : type.getDeclaredMethods()) {
            checks.due(m + " takes at most seven parameters", true, m.getParameterCount() <= 7);
            checks.due(m + " bears no name of the face unless it is of it", true,
                    Modifier.isPublic(m.getModifiers()) || !names.contains(m.getName()));
        }
    }
}
