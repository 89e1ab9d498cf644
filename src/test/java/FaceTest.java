import java.lang.management.ManagementFactory;
import java.lang.reflect.Constructor;
import java.lang.reflect.Field;
import java.lang.reflect.Method;
import java.lang.reflect.Modifier;
import java.util.Arrays;
import java.util.TreeSet;

/** The face is the document's and nothing more, and calls make no objects. */
final class FaceTest {
    private static final String[] FACE = {
        "int append(long)", "int publish()", "boolean order(int)", "int recover()", "int writes()",
        "int length()", "int size(int)", "long root(int)", "int latest()", "long tile(int,int,int)",
        "long entry(int)", "int find(long)", "long rootOf(int)", "int include(int,int)",
        "int extend(int,int)", "long proof(int)", "boolean offer(int,long)", "boolean offers(int)",
        "boolean shows(long,int,int,long)", "boolean leads(int,int,long,long)",
    };

    public static void main(String[] args) throws ReflectiveOperationException {
        methods();
        constants();
        constructors();
        callsMakeNoObjects();
        Check.end();
    }

    private static String signature(Method method) {
        String[] types = Arrays.stream(method.getParameterTypes()).map(Class::getName).toArray(String[]::new);
        return method.getReturnType().getName() + " " + method.getName() + "(" + String.join(",", types) + ")";
    }

    private static void methods() {
        TreeSet<String> found = new TreeSet<>();
        TreeSet<String> publicNames = new TreeSet<>();
        for (Method method : TileLog.class.getDeclaredMethods()) {
            if (!Modifier.isPrivate(method.getModifiers())) {
                Check.due(method + " is public, not static", Modifier.isPublic(method.getModifiers())
                    && !Modifier.isStatic(method.getModifiers()), true);
                found.add(signature(method));
                publicNames.add(method.getName());
            }
        }
        Check.due("the methods are " + found, found.equals(new TreeSet<>(Arrays.asList(FACE))), true);
        for (Method method : TileLog.class.getDeclaredMethods()) {
            if (Modifier.isPrivate(method.getModifiers())) {
                Check.due(method + " bears a public name", publicNames.contains(method.getName()), false);
            }
        }
    }

    private static void constants() throws ReflectiveOperationException {
        int seen = 0;
        for (Field field : TileLog.class.getDeclaredFields()) {
            if (!Modifier.isPrivate(field.getModifiers())) {
                seen++;
                int constant = Modifier.PUBLIC | Modifier.STATIC | Modifier.FINAL;
                Check.due(field + " is a constant", field.getModifiers(), constant);
            }
        }
        Check.due("constants", seen, 3);
        Check.due("NONE", TileLog.class.getField("NONE").getInt(null), -1);
        Check.due("DOWN", TileLog.class.getField("DOWN").getInt(null), -2);
        Check.due("CRASHED", TileLog.class.getField("CRASHED").getInt(null), -3);
    }

    private static void constructors() {
        Check.due("the class is public and final", TileLog.class.getModifiers(), Modifier.PUBLIC | Modifier.FINAL);
        Constructor<?>[] all = TileLog.class.getDeclaredConstructors();
        Check.due("constructors", all.length, 1);
        Check.due("it is public", Modifier.isPublic(all[0].getModifiers()), true);
        Check.due("it takes nothing", all[0].getParameterCount(), 0);
    }

    private static long allocated() {
        return ((com.sun.management.ThreadMXBean) ManagementFactory.getThreadMXBean())
            .getThreadAllocatedBytes(Thread.currentThread().getId());
    }

    private static void callsMakeNoObjects() {
        everyCall(new TileLog());
        allocated();
        TileLog log = new TileLog();
        long before = allocated();
        everyCall(log);
        long made = allocated() - before;
        // One small object in each of the loop's calls would come to more.
        Check.due("some 500 calls made " + made + " bytes", made < 4000, true);
    }

    private static void everyCall(TileLog log) {
        for (int i = 0; i < 25; i++) {
            log.append(i);
            log.append(i);
            log.order(i);
            log.publish();
            log.recover();
            log.publish();
            log.writes();
            log.length();
            log.size(0);
            log.root(1);
            log.latest();
            log.tile(0, 0, 0);
            log.entry(0);
            log.find(i);
            log.rootOf(i);
            log.include(i / 2, i);
            log.extend(i / 2, i);
            log.proof(0);
            log.offer(0, i);
            log.shows(i, 0, i, 0);
        }
        log.offers(3);
        log.leads(1, 8, 0, 0);
    }

    private FaceTest() { }
}
