import java.lang.reflect.Constructor;
import java.lang.reflect.Field;
import java.lang.reflect.Method;
import java.lang.reflect.Modifier;
import java.util.Set;
import java.util.TreeSet;

/** The public face: just what the document has, and no other member that can be seen. */
public final class FaceTest {
    private static final Set<String> FACE = Set.of(
        "public static final int CleanMatrix.NONE",
        "public static final int CleanMatrix.FULL",
        "public CleanMatrix(int,int)",
        "public boolean CleanMatrix.need(int,int,int)",
        "public boolean CleanMatrix.hours(int,int,int)",
        "public int CleanMatrix.thing()",
        "public boolean CleanMatrix.joinPipe(int,int)",
        "public boolean CleanMatrix.held(int,int,long)",
        "public boolean CleanMatrix.cleaned(int,int,long)",
        "public int CleanMatrix.may(int,int,long)",
        "public int CleanMatrix.least(int,int,long)",
        "public boolean CleanMatrix.cost(int,long)",
        "public int CleanMatrix.level(int,long)",
        "public boolean CleanMatrix.told(int,int,long,long)",
        "public int CleanMatrix.allergen(int,int)");

    public static void main(String[] args) {
        Check check = new Check();
        Set<String> seen = new TreeSet<>();
        for (Field field : CleanMatrix.class.getDeclaredFields()) {
            if (!Modifier.isPrivate(field.getModifiers())) {
                seen.add(field.toString());
            }
            if (Modifier.isStatic(field.getModifiers())) {
                check.due("final " + field, Modifier.isFinal(field.getModifiers()), true);
            }
        }
        for (Constructor<?> constructor : CleanMatrix.class.getDeclaredConstructors()) {
            seen.add(constructor.toString());
        }
        Set<String> names = new TreeSet<>();
        for (Method method : CleanMatrix.class.getDeclaredMethods()) {
            if (!Modifier.isPrivate(method.getModifiers())) {
                seen.add(method.toString());
            }
            check.due("one method of the name " + method.getName(), names.add(method.getName()), true);
        }
        for (String member : seen) {
            check.due("in the face: " + member, FACE.contains(member), true);
        }
        for (String member : FACE) {
            check.due("there: " + member, seen.contains(member), true);
        }
        for (Class<?> inside : CleanMatrix.class.getDeclaredClasses()) {
            int has = inside.getModifiers();
            check.due("static: " + inside, Modifier.isStatic(has), true);
            check.due("not to be seen: " + inside, Modifier.isPublic(has) || Modifier.isProtected(has), false);
        }
        check.due("public class", Modifier.isPublic(CleanMatrix.class.getModifiers()), true);
        check.due("a class of its own", CleanMatrix.class.getSuperclass() == Object.class, true);
        check.due("of no other kind", CleanMatrix.class.getInterfaces().length, 0);
        check.due("without a package", CleanMatrix.class.getPackageName().isEmpty(), true);
        check.due("final class", Modifier.isFinal(CleanMatrix.class.getModifiers()), true);
        check.due("NONE", CleanMatrix.NONE, -1);
        check.due("FULL", CleanMatrix.FULL, -2);
        check.end();
    }
}
