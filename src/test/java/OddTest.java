import java.lang.reflect.Method;

/** Whatever a call is told, in whatever state: it ends, throws nothing, and answers what such a call may answer. */
public final class OddTest {
    private static final int[] ODD = {
        Integer.MIN_VALUE, Integer.MIN_VALUE + 1, -(1 << 30), -65536, -161, -100, -11, -10, -2, -1, 0, 1, 2, 3, 4, 5, 6, 7,
        8, 9, 10, 11, 13, 14, 15, 16, 17, 18, 20, 21, 33, 39, 40, 41, 44, 59, 60, 61, 70, 77, 78, 79, 80, 81, 88, 99, 100,
        159, 160, 161, 255, 256, 65535, 65536, (1 << 30) - 1, 1 << 30, (1 << 30) + 1, Integer.MAX_VALUE - 1,
        Integer.MAX_VALUE};
    private static int seed = 20;

    private static int draw(int n) {
        seed = seed * 1664525 + 1013904223;
        return (seed >>> 8) % n;
    }

    /** Mostly something that may be, so that the calls come far; now and then something odd. */
    private static Object argument(Class<?> type, int odd) {
        int v = draw(odd) == 0 ? ODD[draw(ODD.length)] : draw(2) == 0 ? draw(8) : 10 * draw(4) + draw(4);
        if (type == boolean.class) {
            return (v & 1) == 0;
        }
        return type == long.class ? (Object) ((long) v << draw(40)) : (Object) v;
    }

    private static void goOn(int run) {
        Face x = Watch.fresh();
        Method[] calls = Face.class.getMethods();
        java.util.Arrays.sort(calls, (a, b) -> a.getName().compareTo(b.getName()));
        int odd = run % 4 == 0 ? 1 : 2 + run % 7;
        while (Watch.calls(x) < Watch.MOST) {
            Method m = calls[draw(calls.length)];
            Object[] arguments = new Object[m.getParameterCount()];
            for (int i = 0; i < arguments.length; i++) {
                arguments[i] = argument(m.getParameterTypes()[i], odd);
            }
            try {
                Object answer = m.invoke(x, arguments);
                if (m.getReturnType() == int.class && !m.getName().matches("act|seed|status")) {
                    int a = (Integer) answer;
                    Checks.hold(m.getName() + java.util.Arrays.toString(arguments) + " answered " + a,
                        a >= -7 && a <= 35640 || a >= -16 && a <= -11);
                }
            } catch (ReflectiveOperationException e) {
                Checks.hold(m.getName() + java.util.Arrays.toString(arguments) + ": " + e.getCause(), false);
            }
        }
    }

    public static void main(String[] args) {
        for (int run = 0; run < 1500; run++) {
            goOn(run);
        }
        Checks.end("OddTest");
    }
}
