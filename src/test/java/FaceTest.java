import java.lang.reflect.Constructor;
import java.lang.reflect.Field;
import java.lang.reflect.Method;
import java.lang.reflect.Modifier;
import java.util.Arrays;
import java.util.TreeSet;
import java.util.stream.Collectors;

/** The public face: just the document's constants, constructor and methods, with their throws clauses. */
public final class FaceTest {
    private static final Checks C = new Checks();
    private static final String INDEX = "IndexOutOfBoundsException";
    private static final String ARGUMENT = "IllegalArgumentException";
    private static final String STATE = "IllegalStateException";

    public static void main(String[] args) {
        TreeSet<String> want = new TreeSet<>(Arrays.asList(
                "int NONE", "RareFaults()",
                "int addPart(int) " + ARGUMENT + " " + STATE,
                "int removePart(int) " + INDEX,
                "int weigh(int,int,int) " + INDEX + " " + ARGUMENT + " " + STATE,
                "int tilt(int,int,int) " + INDEX + " " + ARGUMENT + " " + STATE,
                "int tiltAll(int) " + ARGUMENT,
                "int limit(int) " + ARGUMENT,
                "int seed(int) " + ARGUMENT,
                "int draw(int) " + ARGUMENT + " " + STATE,
                "int forget()",
                "int append(int) " + ARGUMENT + " " + STATE,
                "int clearBuffer()",
                "int firstError()",
                "int addAll() " + ARGUMENT + " " + STATE,
                "int undo() " + STATE,
                "int part(int,int) " + INDEX + " " + ARGUMENT,
                "int weight(int,int,boolean) " + INDEX,
                "long ways(int,boolean) " + ARGUMENT,
                "int likeliest(int) " + INDEX,
                "int count(int) " + ARGUMENT,
                "double measure(int) " + ARGUMENT,
                "double ifLimit(int) " + ARGUMENT,
                "int limitFor(int) " + ARGUMENT,
                "double greatest(boolean)",
                "int slightest()",
                "long digest()"));
        C.due("the face", String.join("\n", want), String.join("\n", face()));
        C.due("the class is public and final", true,
                Modifier.isFinal(RareFaults.class.getModifiers())
                        && Modifier.isPublic(RareFaults.class.getModifiers()));
        for (Class<?> inside : RareFaults.class.getDeclaredClasses()) {
            int modifiers = inside.getModifiers();
            C.due(inside.getName() + " is static and not public", true,
                    Modifier.isStatic(modifiers) && !Modifier.isPublic(modifiers));
        }
        C.end();
    }

    private static TreeSet<String> face() {
        TreeSet<String> face = new TreeSet<>();
        for (Field field : RareFaults.class.getDeclaredFields()) {
            if (!Modifier.isPrivate(field.getModifiers())) {
                face.add(field.getType() + " " + field.getName());
            }
        }
        for (Constructor<?> constructor : RareFaults.class.getDeclaredConstructors()) {
            face.add("RareFaults" + types(constructor.getParameterTypes(), ",", "(", ")"));
        }
        for (Method method : RareFaults.class.getDeclaredMethods()) {
            if (!Modifier.isPrivate(method.getModifiers())) {
                face.add(method.getReturnType() + " " + method.getName()
                        + types(method.getParameterTypes(), ",", "(", ")")
                        + types(method.getExceptionTypes(), " ", " ", ""));
            }
        }
        return new TreeSet<>(face.stream().map(String::trim).collect(Collectors.toList()));
    }

    private static String types(Class<?>[] types, String between, String before, String behind) {
        return Arrays.stream(types).map(Class::getSimpleName)
                .collect(Collectors.joining(between, before, behind));
    }
}
