import java.lang.reflect.Constructor;
import java.lang.reflect.Field;
import java.lang.reflect.Method;
import java.lang.reflect.Modifier;
import java.util.Arrays;
import java.util.List;
import java.util.Set;
import java.util.TreeSet;

/** The class has the document's face and no other member that can be seen from outside. */
public final class SpanMoverFaceTest {
    private static final List<String> FACE = List.of(
            "int row(int, int)",
            "int mark(int)",
            "int seal(int)",
            "int kindOf(int)",
            "int length(int)",
            "int set(int, int, long)",
            "int setThing(int, int, int)",
            "long get(int, int)",
            "long deep(int, int, int)",
            "int why()",
            "int lift(int, int)",
            "int move(int, int, int, int, int)",
            "int moved()",
            "int plan(int, int, int, int, int)",
            "int run()",
            "int ended()",
            "int clear(int)",
            "int same(int, int)",
            "long digest(int)",
            "int count(int)");

    private static int wrong = 0;

    public static void main(String[] args) {
        due("the class is public and final",
                Modifier.isPublic(SpanMover.class.getModifiers())
                        && Modifier.isFinal(SpanMover.class.getModifiers()));
        methodsAreTheFace();
        constructorIsTheOne();
        fieldsArePrivate();
        staticFieldsAreConstants(SpanMover.class);
        innerClassesAreStaticAndNotPublic();
        System.out.println(wrong == 0 ? "the face is as due" : wrong + " faults of the face");
        if (wrong != 0) {
            System.exit(1);
        }
    }

    private static void methodsAreTheFace() {
        Set<String> visible = new TreeSet<>();
        Set<String> publicNames = new TreeSet<>();
        Set<String> privateNames = new TreeSet<>();
        for (Method method : SpanMover.class.getDeclaredMethods()) {
            if (method.isSynthetic()) {
                continue;
            }
            if (Modifier.isPrivate(method.getModifiers())) {
                privateNames.add(method.getName());
            } else {
                visible.add(written(method));
                publicNames.add(method.getName());
                due(method.getName() + " is public and of the object",
                        Modifier.isPublic(method.getModifiers())
                                && !Modifier.isStatic(method.getModifiers()));
                due(method.getName() + " declares no exception",
                        method.getExceptionTypes().length == 0);
            }
        }
        due("the methods are " + visible, visible.equals(new TreeSet<>(FACE)));
        privateNames.retainAll(publicNames);
        due("private methods with a public one's name: " + privateNames, privateNames.isEmpty());
    }

    private static String written(Method method) {
        String parameters = Arrays.toString(Arrays.stream(method.getParameterTypes())
                .map(Class::getName).toArray());
        return method.getReturnType().getName() + " " + method.getName()
                + "(" + parameters.substring(1, parameters.length() - 1) + ")";
    }

    private static void constructorIsTheOne() {
        Constructor<?>[] constructors = SpanMover.class.getDeclaredConstructors();
        due("there is one constructor, public and without parameters",
                constructors.length == 1 && constructors[0].getParameterCount() == 0
                        && Modifier.isPublic(constructors[0].getModifiers()));
    }

    private static void fieldsArePrivate() {
        for (Field field : SpanMover.class.getDeclaredFields()) {
            due("field " + field.getName() + " is private",
                    Modifier.isPrivate(field.getModifiers()));
        }
    }

    /** What two objects could share would be a static array or a static field that changes. */
    private static void staticFieldsAreConstants(Class<?> owner) {
        for (Field field : owner.getDeclaredFields()) {
            if (Modifier.isStatic(field.getModifiers()) && !field.isSynthetic()) {
                due("static field " + field.getName() + " is a constant",
                        Modifier.isFinal(field.getModifiers())
                                && (field.getType().isPrimitive()
                                        || field.getType() == String.class));
            }
        }
        for (Class<?> inner : owner.getDeclaredClasses()) {
            staticFieldsAreConstants(inner);
        }
    }

    private static void innerClassesAreStaticAndNotPublic() {
        for (Class<?> inner : SpanMover.class.getDeclaredClasses()) {
            int modifiers = inner.getModifiers();
            due("class " + inner.getName() + " is static and neither public nor protected",
                    Modifier.isStatic(modifiers) && !Modifier.isPublic(modifiers)
                            && !Modifier.isProtected(modifiers));
        }
    }

    private static void due(String what, boolean holds) {
        if (!holds) {
            wrong++;
            System.out.println("doesn't hold: " + what);
        }
    }
}
