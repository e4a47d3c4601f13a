import com.sun.management.ThreadMXBean;
import java.lang.management.ManagementFactory;
import java.lang.reflect.InvocationTargetException;
import java.lang.reflect.Method;
import java.lang.reflect.Modifier;
import java.util.ArrayList;
import java.util.Comparator;
import java.util.List;
import java.util.Random;

/**
 * Rules 6, 7 and 12 of ../shared/LANGUAGE.md: whatever the arguments and the state, and however many calls came before,
 * a call throws just what its throws clause names, by a throw of the class itself; and calls take little room.
 */
public final class WildTest {
    private static final Due DUE = new Due("WildTest");
    private static final int[] EDGES = {Integer.MIN_VALUE, Integer.MIN_VALUE + 1, -200, -3, -2, -1, 0, 1, 2, 3, 4, 5, 6, 7, 8,
        9, 10, 11, 39, 40, 41, 59, 60, 119, 120, 200, 201, 1 << 16, 1 << 30, Integer.MAX_VALUE - 1, Integer.MAX_VALUE};
    /** What makes more of something stands here as often as is needed to have much of it. */
    private static final List<String> OFTEN = List.of("setType", "setValue", "setValue", "node", "node", "choose", "run",
        "run", "build");

    private final Random random;
    private final MixinUnits made = new MixinUnits();
    private final List<Method> face = new ArrayList<>();
    private final int wildness;

    private WildTest(long seed) {
        random = new Random(seed);
        wildness = random.nextInt(3) * 15;
        for (Method method : MixinUnits.class.getDeclaredMethods()) {
            if (Modifier.isPublic(method.getModifiers())) {
                face.add(method);
            }
        }
        face.sort(Comparator.comparing(Method::getName));
        for (String name : OFTEN) {
            face.stream().filter(method -> method.getName().equals(name)).findFirst().ifPresent(face::add);
        }
    }

    public static void main(String[] args) throws ReflectiveOperationException {
        for (long seed = 1; seed <= 400; seed++) {
            WildTest test = new WildTest(seed);
            for (int call = 0; call < 1500; call++) {
                test.call(seed);
            }
        }
        room();
        DUE.end();
    }

    private int argument() {
        return random.nextInt(100) < wildness ? EDGES[random.nextInt(EDGES.length)] : random.nextInt(10) - 1;
    }

    private void call(long seed) throws ReflectiveOperationException {
        Method method = face.get(random.nextInt(face.size()));
        Object[] arguments = new Object[method.getParameterCount()];
        for (int i = 0; i < arguments.length; i++) {
            arguments[i] = method.getParameterTypes()[i] == boolean.class ? (Object) random.nextBoolean() : (Object) argument();
        }
        try {
            method.invoke(made, arguments);
        } catch (InvocationTargetException e) {
            Throwable thrown = e.getCause();
            boolean isOwn = thrown instanceof RuntimeException && Due.isThrown((RuntimeException) thrown)
                && List.of(method.getExceptionTypes()).contains(thrown.getClass());
            DUE.is("seed " + seed + ": " + method.getName() + List.of(arguments) + " threw " + thrown, isOwn, true);
        }
    }

    /** One run has room for 600,000 objects and for 7,300,000 fields and elements: here it is held to a third of that. */
    private static void room() {
        ThreadMXBean threads = (ThreadMXBean) ManagementFactory.getThreadMXBean();
        long thread = Thread.currentThread().getId();
        if (!threads.isThreadAllocatedMemorySupported() || !threads.isThreadAllocatedMemoryEnabled()) {
            return;
        }
        dearCalls();
        long before = threads.getThreadAllocatedBytes(thread);
        dearCalls();
        long taken = threads.getThreadAllocatedBytes(thread) - before;
        DUE.is("dear calls take " + taken + " bytes, at most 9,600,000", taken <= 9_600_000, true);
    }

    /** As many nodes as there can be, each with components of 199 parts by all names, all compiled, run and edited. */
    private static void dearCalls() {
        MixinUnits x = new MixinUnits();
        int integer = x.type(0, 0, 0);
        int five = tree(x, integer, 5);
        int fiveNamed = tree(x, x.type(2, 0, 0), 5);
        int fourNamed = tree(x, x.type(2, 1, 0), 4);
        int large = x.type(2, 2, 0);
        int sum = x.leaf(false, 1);
        for (int i = 0; i < 5; i++) {
            sum = x.expression(0, sum, 0, 0);
        }
        int unit = x.unit();
        for (int name = 0; name < 6; name++) {
            x.setType(unit, name, name == 0 ? five : name == 1 ? fiveNamed : name == 2 ? fourNamed : large);
        }
        for (int name = 0; name < 9; name++) {
            x.setValue(unit, name, large, -1, 0);
        }
        int cells = x.unit();
        for (int name = 0; name < 10; name++) {
            x.setValue(cells, name, integer, sum, 2);
        }
        int one = x.unitNode(unit, -1);
        int other = x.unitNode(cells, -1);
        for (int i = 2; i < 40; i++) {
            DUE.is("dear nodes have no error", x.error(x.node(i % 2, one, one, i % 4 == 1)), 0);
        }
        for (int round = 0; round < 3; round++) {
            for (int i = 0; i < 40; i++) {
                x.build(i);
                x.isFresh(i);
                DUE.is("dear cells run", x.run(other), 0);
            }
            x.version(unit);
        }
    }

    /** Pairs of a type that stands in them so many times. */
    private static int tree(MixinUnits x, int type, int leaves) {
        return leaves == 1 ? type : x.type(1, tree(x, type, leaves / 2), tree(x, type, leaves - leaves / 2));
    }
}
