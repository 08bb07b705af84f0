import java.lang.reflect.InvocationHandler;
import java.lang.reflect.Method;
import java.lang.reflect.Proxy;
import java.util.ArrayList;
import java.util.HashMap;
import java.util.List;
import java.util.Map;

/**
 * Stands between a test and its object: counts the calls, as nothing is promised behind the 512th, and keeps
 * them, so that another object can be told the same.
 */
final class Watch implements InvocationHandler {
    static final int MOST = 512;
    private static final Map<String, Method> METHODS = methods();

    private final TwoBarsByTheWindow object = new TwoBarsByTheWindow();
    private final List<Method> told = new ArrayList<>();
    private final List<Object[]> with = new ArrayList<>();
    private final int[] sizes = new int[8];

    private static Map<String, Method> methods() {
        Map<String, Method> all = new HashMap<>();
        for (Method m : TwoBarsByTheWindow.class.getMethods()) {
            all.put(m.getName(), m);
        }
        return all;
    }

    static Face fresh() {
        return (Face) Proxy.newProxyInstance(Face.class.getClassLoader(), new Class<?>[] {Face.class}, new Watch());
    }

    private static Watch of(Face x) {
        return (Watch) Proxy.getInvocationHandler(x);
    }

    static int calls(Face x) {
        return of(x).told.size();
    }

    /** How many elements the ROW had that row() put into this shelf last. */
    static int sizeOf(Face x, int s) {
        return of(x).sizes[s];
    }

    /** A new object that has been told all that this one was. */
    static Face twin(Face x) {
        Face twin = fresh();
        Watch from = of(x);
        Watch to = of(twin);
        for (int i = 0; i < from.told.size(); i++) {
            to.invoke(twin, from.told.get(i), from.with.get(i));
        }
        return twin;
    }

    @Override
    public Object invoke(Object proxy, Method m, Object[] args) {
        told.add(m);
        with.add(args);
        if (told.size() == MOST + 1) {
            Checks.hold("512 calls are enough for a test", false);
        }
        try {
            Object answer = METHODS.get(m.getName()).invoke(object, args);
            if (m.getName().equals("row") && answer.equals(1)) {
                sizes[(Integer) args[0]] = (Integer) args[2];
            }
            return answer;
        } catch (ReflectiveOperationException e) {
            throw new IllegalStateException(m.getName() + " has thrown", e);
        }
    }
}
