import java.io.IOException;
import java.util.ArrayDeque;
import java.util.Deque;
import java.util.HashMap;
import java.util.Map;
import java.util.Set;

/** What of LANGUAGE.md can be seen in the compiled class: its library, how deep its calls go, no catch, no lambda. */
public final class LibraryTest {
    private static final int MOST_CLASSES = 12;
    private static final int MOST_DEEP = 8;

    /** Of what rule 4 lists, that which the class calls; who needs more of the list puts it here, too. */
    private static final Set<String> LET = Set.of(
            "java/lang/Object.<init>()V",
            "java/lang/String.<init>([C)V",
            "java/lang/Integer.bitCount(I)I",
            "java/lang/Math.max(II)I",
            "java/lang/Math.min(II)I",
            "java/lang/System.arraycopy(Ljava/lang/Object;ILjava/lang/Object;II)V",
            "java/util/Arrays.fill([II)V",
            "java/lang/IndexOutOfBoundsException.<init>(Ljava/lang/String;)V",
            "java/lang/IllegalArgumentException.<init>(Ljava/lang/String;)V",
            "java/lang/IllegalStateException.<init>(Ljava/lang/String;)V");

    private static final Map<String, Set<String>> calls = new HashMap<>();
    private static final Deque<String> open = new ArrayDeque<>();

    public static void main(String[] args) throws IOException {
        read(Deadlinekeeper.class);
        Class<?>[] inside = Deadlinekeeper.class.getDeclaredClasses();
        Check.is("classes", 1 + inside.length <= MOST_CLASSES, true);
        for (Class<?> type : inside) {
            Check.is(type + " has no classes inside", type.getDeclaredClasses().length, 0);
            read(type);
        }
        Check.is("the methods were read", calls.size() > 40, true);
        for (Map.Entry<String, Set<String>> entry : calls.entrySet()) {
            for (String called : entry.getValue()) {
                Check.is(entry.getKey() + " calls " + called, calls.containsKey(called) || LET.contains(called), true);
            }
            Check.is("deep: " + entry.getKey(), depthOf(entry.getKey()) <= MOST_DEEP, true);
        }
        Check.done("LibraryTest");
    }

    private static void read(Class<?> type) throws IOException {
        ClassFile file = new ClassFile(type.getResourceAsStream(type.getName() + ".class"));
        calls.putAll(file.calls);
        Check.is(type.getName(), file.faults.toString(), "[]");
    }

    /** How many calls stand open at once below this one, itself and the library's among them. */
    private static int depthOf(String method) {
        Check.is(method + " calls itself, by way of " + open, open.contains(method), false);
        if (open.contains(method)) {
            return 0;
        }
        open.push(method);
        int deepest = 0;
        for (String called : calls.getOrDefault(method, Set.of())) {
            deepest = Math.max(deepest, depthOf(called));
        }
        open.pop();
        return deepest + 1;
    }
}
