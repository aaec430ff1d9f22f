import java.lang.reflect.Constructor;
import java.lang.reflect.Field;
import java.lang.reflect.Method;
import java.lang.reflect.Modifier;
import java.util.Arrays;
import java.util.HashSet;
import java.util.Set;
import java.util.TreeSet;
import java.util.stream.Collectors;

/** The public face: what the document names, and nothing else that is not private. */
public final class FaceTest {
    private static final String INDEX = "IndexOutOfBoundsException";
    private static final String ARGUMENT = "IllegalArgumentException";
    private static final String STATE = "IllegalStateException";

    private static final String[] FACE = {
        "int once(int,int,int,int,int) " + ARGUMENT + " " + STATE,
        "int every(int,int,int,int) " + ARGUMENT + " " + STATE,
        "int strike(int) " + INDEX + " " + STATE,
        "int needs(int,int,boolean) " + INDEX + " " + ARGUMENT + " " + STATE,
        "int section(int,int,int,int) " + INDEX + " " + ARGUMENT + " " + STATE,
        "int budget(int,int,int) " + INDEX + " " + ARGUMENT + " " + STATE,
        "int rules(int,int,int,int) " + ARGUMENT + " " + STATE,
        "int undo() " + STATE,
        "int run(int) " + ARGUMENT + " " + STATE,
        "int again()",
        "int ofJob(int,int) " + INDEX + " " + ARGUMENT,
        "int ofSection(int,int,boolean) " + INDEX,
        "int ceiling(int) " + INDEX,
        "int plan(int) " + ARGUMENT,
        "int edge(boolean)",
        "int near(int,int) " + ARGUMENT,
        "int load(int,int) " + ARGUMENT,
        "int work(int,int) " + ARGUMENT,
        "int crowd(int) " + ARGUMENT,
        "int end(int) " + INDEX + " " + STATE,
        "int late()",
        "int idle(int,int) " + ARGUMENT,
        "int nextIdle(int) " + ARGUMENT,
        "int pick(int) " + ARGUMENT,
        "int cutting(boolean,int) " + ARGUMENT,
        "int share()",
        "int response(int) " + INDEX + " " + STATE,
        "int last()",
        "int piece(int,int,boolean) " + INDEX + " " + ARGUMENT + " " + STATE,
        "int ran(int) " + INDEX,
        "String trace(int,int) " + ARGUMENT,
        "int ofTask(int,int) " + INDEX + " " + ARGUMENT,
        "int ofRun(int,int) " + INDEX + " " + ARGUMENT,
        "int ofAll(int) " + ARGUMENT,
        "int holder(int) " + INDEX,
        "int queued(int) " + INDEX,
        "int knock()",
        "boolean isSound()",
        "long digest()",
    };

    public static void main(String[] args) {
        Class<?> type = Deadlinekeeper.class;
        Check.is("the class", Modifier.toString(type.getModifiers()), "public final");
        Set<String> found = new TreeSet<>();
        Set<String> names = new HashSet<>();
        for (Method method : type.getDeclaredMethods()) {
            if (Modifier.isPublic(method.getModifiers())) {
                Check.is(method + " is not static", Modifier.isStatic(method.getModifiers()), false);
                found.add(told(method));
                names.add(method.getName());
            }
        }
        Check.is("the methods", found.toString(), new TreeSet<>(Arrays.asList(FACE)).toString());
        othersArePrivate(type, names);
        for (Class<?> inner : type.getDeclaredClasses()) {
            Check.is(inner + " is static", Modifier.isStatic(inner.getModifiers()), true);
            Check.is(inner + " is not public", Modifier.isPublic(inner.getModifiers()), false);
            Check.is(inner + " has at most 20 fields", inner.getDeclaredFields().length <= 20, true);
            for (Method method : inner.getDeclaredMethods()) {
                Check.is(inner + " " + method + " has no name of the face", names.contains(method.getName()), false);
            }
        }
        Check.done("FaceTest");
    }

    private static String told(Method method) {
        String thrown = Arrays.stream(method.getExceptionTypes()).map(t -> " " + t.getSimpleName())
                .collect(Collectors.joining());
        return method.getReturnType().getSimpleName() + " " + method.getName()
                + Arrays.stream(method.getParameterTypes()).map(Class::getSimpleName)
                .collect(Collectors.joining(",", "(", ")")) + thrown;
    }

    private static void othersArePrivate(Class<?> type, Set<String> names) {
        for (Method method : type.getDeclaredMethods()) {
            if (!Modifier.isPublic(method.getModifiers()) && !method.isSynthetic()) {
                Check.is(method + " is private", Modifier.isPrivate(method.getModifiers()), true);
                Check.is(method + " has a name of its own", names.contains(method.getName()), false);
            }
        }
        for (Field field : type.getDeclaredFields()) {
            Check.is(field + " is private", Modifier.isPrivate(field.getModifiers()), true);
            Check.is(field + " is final if static",
                    !Modifier.isStatic(field.getModifiers()) || Modifier.isFinal(field.getModifiers()), true);
        }
        Constructor<?>[] constructors = type.getDeclaredConstructors();
        Check.is("one constructor", constructors.length, 1);
        Check.is("without parameters", constructors[0].getParameterCount(), 0);
        Check.is("public", Modifier.isPublic(constructors[0].getModifiers()), true);
    }
}
