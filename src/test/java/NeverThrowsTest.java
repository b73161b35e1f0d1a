import java.lang.reflect.InvocationTargetException;
import java.lang.reflect.Method;
import java.lang.reflect.Modifier;
import java.util.ArrayList;
import java.util.Arrays;
import java.util.Comparator;
import java.util.List;
import java.util.Random;

/**
 * Runs of 512 calls by chance (always the same), and each call with extreme numbers: none throws, and
 * findings are counted as they are told.
 */
public final class NeverThrowsTest {

    private static final int[] MOSTS = {2, 3, 5, 8, 12, 12, 42, 101, 2049, 10001};

    public static void main(String[] args) throws IllegalAccessException {
        List<Method> calls = new ArrayList<>();
        for (Method method : GutterRights.class.getDeclaredMethods()) {
            if (Modifier.isPublic(method.getModifiers())) {
                calls.add(method);
            }
        }
        calls.sort(Comparator.comparing(Method::getName));
        Random chance = new Random(43);
        for (int run = 0; run < 300; run++) {
            oneRun(run, calls, chance);
        }
        for (Method call : calls) {
            extremes(call);
        }
        Due.end();
    }

    /** Each call with the ends of int, and what is around 0, in each place. */
    private static void extremes(Method call) throws IllegalAccessException {
        int[] extremes = {Integer.MIN_VALUE, Integer.MIN_VALUE + 1, -1, 0, 1, Integer.MAX_VALUE - 1, Integer.MAX_VALUE};
        int n = call.getParameterCount();
        GutterRights x = Bounds.busy();
        for (int which = 0; which < Math.pow(extremes.length, n); which++) {
            Object[] arguments = new Object[n];
            int rest = which;
            for (int k = 0; k < n; k++) {
                arguments[k] = extremes[rest % extremes.length];
                rest /= extremes.length;
            }
            x = which % 300 == 0 ? Bounds.busy() : x;
            try {
                call.invoke(x, arguments);
            } catch (InvocationTargetException e) {
                Due.due(call.getName() + Arrays.toString(arguments) + " threw " + e.getCause(), 1, 0);
            }
        }
    }

    private static void oneRun(int run, List<Method> calls, Random chance) throws IllegalAccessException {
        GutterRights x = new GutterRights();
        int findings = 0;
        for (int i = 0; i < 511; i++) {
            Method call = calls.get(chance.nextInt(calls.size()));
            Object[] arguments = new Object[call.getParameterCount()];
            for (int k = 0; k < arguments.length; k++) {
                arguments[k] = someNumber(chance);
            }
            try {
                long answer = ((Number) call.invoke(x, arguments)).longValue();
                boolean isSeed = call.getName().equals("seed") || call.getName().equals("count");
                findings += !isSeed && answer <= Due.BEYOND ? 1 : 0;
                findings += call.getName().equals("count") && ((int) arguments[0] < 0 || (int) arguments[0] > 7) ? 1 : 0;
            } catch (InvocationTargetException e) {
                Due.due("run " + run + ": " + call.getName() + " threw " + e.getCause(), 1, 0);
            }
        }
        Due.due("run " + run + ": findings", x.status(-1), findings);
    }

    private static int someNumber(Random chance) {
        if (chance.nextInt(40) == 0) {
            return chance.nextInt();
        }
        return chance.nextInt(MOSTS[chance.nextInt(MOSTS.length)]) - (chance.nextInt(12) == 0 ? 1 : 0);
    }
}
