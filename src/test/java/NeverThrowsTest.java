import java.lang.reflect.InvocationTargetException;
import java.lang.reflect.Method;
import java.lang.reflect.Modifier;
import java.util.ArrayList;
import java.util.Comparator;
import java.util.List;
import java.util.Random;

/** Runs of 512 calls by chance (always the same): none throws, and findings are counted as they are told. */
public final class NeverThrowsTest {

    private static final int[] MOSTS = {2, 3, 5, 8, 12, 12, 42, 101, 2049, 10001};

    public static void main(String[] args) throws IllegalAccessException {
        List<Method> calls = new ArrayList<>();
        for (Method method : GutterRights.class.getDeclaredMethods()) {
            if (Modifier.isPublic(method.getModifiers())) {
                calls.add(method);
            }
        }
        calls.sort(Comparator.comparing(Method::getName));
        Random chance = new Random(43);
        for (int run = 0; run < 300; run++) {
            oneRun(run, calls, chance);
        }
        Due.end();
    }

    private static void oneRun(int run, List<Method> calls, Random chance) throws IllegalAccessException {
        GutterRights x = new GutterRights();
        int findings = 0;
        for (int i = 0; i < 511; i++) {
            Method call = calls.get(chance.nextInt(calls.size()));
            Object[] arguments = new Object[call.getParameterCount()];
            for (int k = 0; k < arguments.length; k++) {
                arguments[k] = someNumber(chance);
            }
            try {
                long answer = ((Number) call.invoke(x, arguments)).longValue();
                boolean isSeed = call.getName().equals("seed") || call.getName().equals("count");
                findings += !isSeed && answer <= Due.BEYOND ? 1 : 0;
                findings += call.getName().equals("count") && ((int) arguments[0] < 0 || (int) arguments[0] > 7) ? 1 : 0;
            } catch (InvocationTargetException e) {
                Due.due("run " + run + ": " + call.getName() + " threw " + e.getCause(), 1, 0);
            }
        }
        Due.due("run " + run + ": findings", x.status(-1), findings);
    }

    private static int someNumber(Random chance) {
        if (chance.nextInt(40) == 0) {
            return chance.nextInt();
        }
        return chance.nextInt(MOSTS[chance.nextInt(MOSTS.length)]) - (chance.nextInt(12) == 0 ? 1 : 0);
    }
}
