import java.lang.reflect.Constructor;
import java.lang.reflect.Field;
import java.lang.reflect.Method;
import java.lang.reflect.Modifier;
import java.util.Arrays;
import java.util.List;
import java.util.Set;
import java.util.TreeSet;

/** The face is the document's, and no other member can be reached (rule 1 of LANGUAGE.md). */
public final class FaceTest {
    private static final List<String> METHODS = List.of(
            "int addPerson(int,int)", "int addPersons()", "int write(int,int,int)",
            "int check(int,int)", "int strike(int,int)", "int checkUrgent()",
            "int trust(int,int)", "int set(int,int)", "int tellDeath(int,int)",
            "int decide(int,boolean)", "int print()", "int correct(int,int,int)",
            "int type(char)", "int clearText()", "int undo()", "int keep()", "int restore()",
            "int person(int,int)", "int fact(int,int,int)", "float worth(int)",
            "int urgent(int)", "int page(int)", "int source(int,int)", "int staleIn(int)",
            "int count(int)");
    private static final List<String> CONSTANTS =
            List.of("UNKNOWN", "BAD_VALUE", "FULL", "NOT_POSSIBLE", "NONE");

    public static void main(String[] args) throws IllegalAccessException {
        constants();
        methods();
        constructors();
        privateNames();
        Due.end("FaceTest");
    }

    private static void constants() throws IllegalAccessException {
        Set<String> open = new TreeSet<>();
        for (Field field : LivesAhead.class.getDeclaredFields()) {
            if (!Modifier.isPrivate(field.getModifiers())) {
                open.add(field.getName());
                Due.due("type of " + field.getName(), field.getType().getName(), "int");
                Due.due(field.getName(), field.getInt(null),
                        -1 - CONSTANTS.indexOf(field.getName()));
            }
        }
        Due.due("open fields", open.toString(), new TreeSet<>(CONSTANTS).toString());
    }

    private static void methods() {
        Set<String> open = new TreeSet<>();
        for (Method method : LivesAhead.class.getDeclaredMethods()) {
            if (!Modifier.isPrivate(method.getModifiers())) {
                Due.due("modifiers of " + method, method.getModifiers(), Modifier.PUBLIC);
                open.add(signature(method));
            }
        }
        Due.due("open methods", open.toString(), new TreeSet<>(METHODS).toString());
    }

    private static String signature(Method method) {
        StringBuilder text = new StringBuilder();
        text.append(method.getReturnType().getName()).append(' ').append(method.getName());
        text.append('(');
        for (int i = 0; i < method.getParameterCount(); i++) {
            text.append(i == 0 ? "" : ",").append(method.getParameterTypes()[i].getName());
        }
        return text.append(')').toString();
    }

    private static void constructors() {
        Constructor<?>[] all = LivesAhead.class.getDeclaredConstructors();
        Due.due("constructors", Arrays.toString(all), "[public LivesAhead()]");
        Due.due("modifiers of the class", LivesAhead.class.getModifiers(),
                Modifier.PUBLIC | Modifier.FINAL);
    }

    private static void privateNames() {
        Set<String> taken = new TreeSet<>();
        for (Method method : LivesAhead.class.getMethods()) {
            taken.add(method.getName());
        }
        for (Class<?> inside : LivesAhead.class.getDeclaredClasses()) {
            Due.due("static " + inside, Modifier.isStatic(inside.getModifiers()) ? 1 : 0, 1);
            for (Method method : inside.getDeclaredMethods()) {
                Due.due("name of " + method, taken.contains(method.getName()) ? 1 : 0, 0);
            }
        }
    }
}
