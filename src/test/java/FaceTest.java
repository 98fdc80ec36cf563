import java.lang.reflect.Constructor;
import java.lang.reflect.Field;
import java.lang.reflect.Method;
import java.lang.reflect.Modifier;
import java.util.Arrays;
import java.util.HashSet;
import java.util.Set;

/** The public face, and those of LANGUAGE.md's rules that a compiled class shows. */
public final class FaceTest {
    private static final Due D = new Due("FaceTest");

    private static final String[] CALLS = {"horse", "height(int, int)", "measure(int, int)", "back(int, int, int)", "tree",
        "shim(int, int, int)", "under(int, int)", "bears(int, int, int, int, int)", "fault(int, int, int, int, int, int)",
        "best(int, int, int, int)", "day(int)", "clear", "serves(int, int, int)", "fewest(int, int)", "hide",
        "flaw(int, int, int)", "cut(int, int, int)", "pair(int, int, int)", "patch(int, int, int)", "bench(int)",
        "work(int, int)", "where", "saddle(int, int, int, int, int)", "free(int, int)", "changed(int, int)", "count(int)",
        "digest"};
    private static final String[] CONSTANTS = {"NONE", "UNKNOWN", "OUTSIDE", "STATE", "FULL"};

    public static void main(String[] args) {
        Class<?> face = SaddleHouse.class;
        holds("public and final", Modifier.isPublic(face.getModifiers()) && Modifier.isFinal(face.getModifiers()));
        holds("without a package", face.getPackageName().isEmpty());
        constructor(face);
        methods(face);
        fields(face);
        inside(face);
        D.end();
    }

    private static void holds(String what, boolean whether) {
        D.due(what, whether ? 1 : 0, 1);
    }

    private static void constructor(Class<?> face) {
        Constructor<?>[] all = face.getDeclaredConstructors();
        holds("one constructor", all.length == 1);
        holds("public, without arguments", Modifier.isPublic(all[0].getModifiers()) && all[0].getParameterCount() == 0);
    }

    private static void methods(Class<?> face) {
        Set<String> due = new HashSet<>(Arrays.asList(CALLS));
        Set<String> names = new HashSet<>();
        for (String call : CALLS) {
            names.add(call.replaceAll("\\(.*", ""));
        }
        for (Method method : face.getDeclaredMethods()) {
            String types = Arrays.toString(method.getParameterTypes()).replace("[", "(").replace("]", ")");
            String told = method.getName() + (types.equals("()") ? "" : types);
            if (!Modifier.isPrivate(method.getModifiers())) {
                holds(told + " is of the face", due.remove(told));
                holds(told + " is public, of the object", method.getModifiers() == Modifier.PUBLIC);
                boolean isLong = method.getName().equals("digest");
                holds(told + " answers as told", method.getReturnType() == (isLong ? long.class : int.class));
            } else {
                holds(told + " has a name of its own", !names.contains(method.getName()));
            }
            holds(told + " takes at most seven", method.getParameterCount() <= 7);
        }
        holds("no call is missing: " + due, due.isEmpty());
    }

    private static void fields(Class<?> face) {
        Set<String> due = new HashSet<>(Arrays.asList(CONSTANTS));
        for (Field field : face.getDeclaredFields()) {
            int is = field.getModifiers();
            if (!Modifier.isPrivate(is)) {
                holds(field.getName() + " is a constant of the face", due.remove(field.getName())
                    && is == (Modifier.PUBLIC | Modifier.STATIC | Modifier.FINAL) && field.getType() == int.class);
            }
            holds(field.getName() + " is final, if static", !Modifier.isStatic(is) || Modifier.isFinal(is));
        }
        holds("no constant is missing: " + due, due.isEmpty());
    }

    private static void inside(Class<?> face) {
        Class<?>[] all = face.getDeclaredClasses();
        holds("some twelve classes at most", all.length <= 12);
        for (Class<?> own : all) {
            int is = own.getModifiers();
            holds(own.getName() + " is static", Modifier.isStatic(is));
            holds(own.getName() + " is not public or protected", !Modifier.isPublic(is) && !Modifier.isProtected(is));
            for (Field field : own.getDeclaredFields()) {
                holds(own.getName() + "." + field.getName() + " is no static state",
                    !Modifier.isStatic(field.getModifiers()) || Modifier.isFinal(field.getModifiers()));
            }
        }
    }
}
