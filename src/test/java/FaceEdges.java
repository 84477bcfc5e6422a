import java.lang.reflect.Field;
import java.lang.reflect.Method;
import java.lang.reflect.Modifier;
import java.util.ArrayList;
import java.util.List;
import java.util.Set;
import java.util.TreeSet;

/** The public face, line by line, and each promise's call as the promise writes it. */
final class FaceEdges {
    private static final String FACE = "The public face";
    // In the face's order, which is that of the promises from 2 on.
    private static final String[] CALLS = {"int put(int width, int value)", "int text(int n, long letters)",
        "int patch(int at, int value)", "int cut(int at, int n)", "int twice(int at, int n)", "int clear()", "int judge()",
        "int place()", "int shrink()", "int at(int place)", "int read(int what)", "int found(int r)", "int count(int what)"};

    private final Sentences doc;
    private final Class<?> face = ClassShape.class;

    FaceEdges(Sentences doc) {
        this.doc = doc;
    }

    void run() {
        theClass();
        constants();
        constructor();
        calls();
        nothingElse();
        classesInside();
    }

    private void theClass() {
        doc.says(FACE, "public final class ClassShape {");
        doc.due("its modifiers", face.getModifiers(), Modifier.PUBLIC | Modifier.FINAL);
        doc.due("its name, without a package", face.getName().equals("ClassShape"));
        doc.due("it extends and implements nothing",
            face.getSuperclass() == Object.class && face.getInterfaces().length == 0);
    }

    private void constants() {
        doc.says(FACE, "public static final int REFUSED = -1;");
        doc.due("REFUSED", constant("REFUSED"), -1);
        doc.says(FACE, "public static final int FULL = -2;");
        doc.due("FULL", constant("FULL"), -2);
    }

    private int constant(String name) {
        try {
            Field field = face.getDeclaredField(name);
            doc.due(name + " as it is declared", field.toString().equals("public static final int ClassShape." + name));
            return field.getInt(null);
        } catch (ReflectiveOperationException none) {
            return 0;
        }
    }

    private void constructor() {
        doc.says(FACE, "public ClassShape();");
        doc.due("number of constructors", face.getDeclaredConstructors().length, 1);
        doc.due("the constructor", face.getDeclaredConstructors()[0].toString().equals("public ClassShape()"));
        doc.says("Promise 1", "`ClassShape()`:");
        doc.due("new ClassShape().count(0)", new ClassShape().count(0), 0);
    }

    private static String nameOf(String call) {
        return call.substring(call.indexOf(' ') + 1, call.indexOf('('));
    }

    /** A call as reflection tells it: without the names of what it takes. */
    private static String declared(String call) {
        List<String> types = new ArrayList<>();
        for (String taken : call.substring(call.indexOf('(') + 1, call.indexOf(')')).split(", ")) {
            types.add(taken.replaceFirst(" .*", ""));
        }
        return "public int ClassShape." + nameOf(call) + "(" + String.join(",", types) + ")";
    }

    private List<String> visibleMethods() {
        List<String> visible = new ArrayList<>();
        for (Method method : face.getDeclaredMethods()) {
            if (!Modifier.isPrivate(method.getModifiers())) {
                visible.add(method.toString());
            }
        }
        return visible;
    }

    private void calls() {
        for (int i = 0; i < CALLS.length; i++) {
            doc.says(FACE, "public " + CALLS[i] + ";");
            doc.due(declared(CALLS[i]), visibleMethods().contains(declared(CALLS[i])));
            doc.says("Promise " + (i + 2), "`" + CALLS[i] + "`:");
            doc.due(declared(CALLS[i]), visibleMethods().contains(declared(CALLS[i])));
        }
    }

    private void nothingElse() {
        doc.says(FACE, "}");
        doc.due("number of methods that are not private", visibleMethods().size(), CALLS.length);
        Set<String> fields = new TreeSet<>();
        for (Field field : face.getDeclaredFields()) {
            if (!Modifier.isPrivate(field.getModifiers())) {
                fields.add(field.getName());
            }
        }
        doc.due("the fields that are not private are the two constants", fields.equals(Set.of("REFUSED", "FULL")));
    }

    /** LANGUAGE.md, rule 1: none can be seen from outside, and no method of theirs is taken for one of the face. */
    private void classesInside() {
        Set<String> names = new TreeSet<>();
        for (String call : CALLS) {
            names.add(nameOf(call));
        }
        for (Class<?> inside : face.getDeclaredClasses()) {
            int modifiers = inside.getModifiers();
            doc.due(inside.getName() + " is static", Modifier.isStatic(modifiers));
            doc.due(inside.getName() + " is hidden", !Modifier.isPublic(modifiers) && !Modifier.isProtected(modifiers));
            for (Method method : inside.getDeclaredMethods()) {
                doc.due(method + " has a name of its own", !names.contains(method.getName()));
            }
        }
        for (Method method : face.getDeclaredMethods()) {
            boolean isPrivate = Modifier.isPrivate(method.getModifiers());
            doc.due(method + " has a name of its own", !isPrivate || !names.contains(method.getName()));
        }
    }
}
