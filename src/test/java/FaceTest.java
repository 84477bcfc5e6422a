import java.lang.reflect.Constructor;
import java.lang.reflect.Field;
import java.lang.reflect.Method;
import java.lang.reflect.Modifier;
import java.util.Set;
import java.util.TreeSet;

/** The class has the document's face and nothing else that can be seen from outside. */
public final class FaceTest {
    private static final Set<String> METHODS = Set.of("int put(int,int)", "int text(int,long)", "int patch(int,int)",
        "int cut(int,int)", "int twice(int,int)", "int clear()", "int judge()", "int place()", "int shrink()",
        "int at(int)", "int read(int)", "int found(int)", "int count(int)");

    public static void main(String[] args) {
        Checks checks = new Checks();
        Set<String> seen = new TreeSet<>();
        for (Method method : ClassShape.class.getDeclaredMethods()) {
            if (!Modifier.isPrivate(method.getModifiers())) {
                seen.add(method.toString());
            }
        }
        checks.due("number of methods that are not private", seen.size(), METHODS.size());
        for (String method : METHODS) {
            String[] parts = method.split(" ");
            checks.due(method, seen.contains("public " + parts[0] + " ClassShape." + parts[1]));
        }
        Set<String> fields = new TreeSet<>();
        for (Field field : ClassShape.class.getDeclaredFields()) {
            if (!Modifier.isPrivate(field.getModifiers())) {
                fields.add(field.toString());
            }
        }
        checks.due("the fields that are not private", fields.equals(Set.of(
            "public static final int ClassShape.REFUSED", "public static final int ClassShape.FULL")));
        Constructor<?>[] constructors = ClassShape.class.getDeclaredConstructors();
        checks.due("number of constructors", constructors.length, 1);
        checks.due("the constructor", constructors[0].toString().equals("public ClassShape()"));
        checks.due("the class", ClassShape.class.getModifiers(), Modifier.PUBLIC | Modifier.FINAL);
        for (Class<?> inside : ClassShape.class.getDeclaredClasses()) {
            checks.due(inside.getName() + " is static", Modifier.isStatic(inside.getModifiers()));
            checks.due(inside.getName() + " is hidden",
                !Modifier.isPublic(inside.getModifiers()) && !Modifier.isProtected(inside.getModifiers()));
        }
        checks.finish("FaceTest");
    }
}
