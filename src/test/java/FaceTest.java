import java.lang.reflect.Constructor;
import java.lang.reflect.Field;
import java.lang.reflect.Method;
import java.lang.reflect.Modifier;
import java.util.ArrayList;
import java.util.Collections;
import java.util.List;

/** The public face of the document: each member of it with its exceptions, and no other. */
public final class FaceTest {
    private static final Check check = new Check("FaceTest");
    private static final String INDEX = "IndexOutOfBoundsException";
    private static final String ARGUMENT = "IllegalArgumentException";
    private static final String STATE = "IllegalStateException";

    private static final String[] FACE = {
        "int answer(int boolean) " + INDEX + " " + STATE,
        "int check(int) " + INDEX + " " + STATE,
        "int clash(int int) " + INDEX + " " + ARGUMENT,
        "int clouds(int int int) " + INDEX + " " + ARGUMENT,
        "int day() ",
        "long digest() ",
        "int draw(int int int int int int) " + INDEX + " " + ARGUMENT + " " + STATE,
        "boolean excuse(int int) " + INDEX + " " + ARGUMENT,
        "int freedBy(int) " + INDEX,
        "int freedByAll(int) " + INDEX,
        "int has(int int) " + INDEX,
        "boolean holds(int) " + INDEX,
        "int issue(int) " + INDEX + " " + STATE,
        "int many(int) " + ARGUMENT,
        "double meanRevisions() ",
        "int ofPack(int int) " + INDEX + " " + ARGUMENT,
        "int ofQuery(int) " + INDEX,
        "int ofSheet(int int) " + INDEX + " " + ARGUMENT,
        "int owes(int) " + INDEX,
        "int pack(int int int) " + INDEX + " " + ARGUMENT + " " + STATE,
        "int place(int int int int int) " + INDEX + " " + ARGUMENT + " " + STATE,
        "int query(int int int int int) " + INDEX + " " + ARGUMENT + " " + STATE,
        "int receive(int int) " + INDEX + " " + STATE,
        "int refer(int int int) " + INDEX + " " + ARGUMENT + " " + STATE,
        "int revise(int) " + INDEX + " " + STATE,
        "int send(int int) " + ARGUMENT + " " + STATE,
        "int sheet(int) " + ARGUMENT + " " + STATE,
        "int start(int) " + INDEX + " " + STATE,
        "int status(int int) " + INDEX,
        "int stoppedBy(int) " + INDEX,
    };

    public static void main(String[] args) {
        check.promise("the public face");
        Class<?> face = DraftsmanOffice.class;
        check.due("the class is public", true, Modifier.isPublic(face.getModifiers()));
        check.due("the class is final", true, Modifier.isFinal(face.getModifiers()));
        constructors(face);
        methods(face);
        fields(face);
        check.end();
    }

    private static void constructors(Class<?> face) {
        Constructor<?>[] all = face.getDeclaredConstructors();
        check.due("constructors", 1, all.length);
        check.due("it is public", true, Modifier.isPublic(all[0].getModifiers()));
        check.due("its parameters", 0, all[0].getParameterCount());
    }

    private static void methods(Class<?> face) {
        List<String> want = new ArrayList<>(List.of(FACE));
        List<String> got = new ArrayList<>();
        for (Method method : face.getDeclaredMethods()) {
            if (!Modifier.isPrivate(method.getModifiers())) {
                check.due(method.getName() + " is public", true, Modifier.isPublic(method.getModifiers()));
                check.due(method.getName() + " is static", false, Modifier.isStatic(method.getModifiers()));
                got.add(written(method));
            }
        }
        Collections.sort(want);
        Collections.sort(got);
        check.compare("methods", want.toString(), got.toString());
    }

    private static String written(Method method) {
        return method.getReturnType().getSimpleName() + " " + method.getName()
                + "(" + names(method.getParameterTypes()) + ") " + names(method.getExceptionTypes());
    }

    private static String names(Class<?>[] types) {
        StringBuilder text = new StringBuilder();
        for (Class<?> type : types) {
            text.append(text.length() == 0 ? "" : " ").append(type.getSimpleName());
        }
        return text.toString();
    }

    private static void fields(Class<?> face) {
        for (Field field : face.getDeclaredFields()) {
            check.due(field.getName() + " is private", true, Modifier.isPrivate(field.getModifiers()));
        }
    }
}
