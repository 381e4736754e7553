import java.lang.reflect.InvocationTargetException;
import java.lang.reflect.Method;
import java.lang.reflect.Modifier;
import java.util.ArrayList;
import java.util.Comparator;
import java.util.List;
import java.util.NoSuchElementException;
import java.util.Random;

/** Any arguments in any state: nothing is thrown but by tet(), and the same calls give the same answers. */
public final class WildTest extends Checks {
    private static final int RUNS = 600;
    private static final int CALLS = 480;
    private static final int[] WILD = {LEAST, LEAST + 1, HIDDEN, -1728, -601, -48, -25, -24, -19, -18, -10, -9, -4, -3, -2, -1, 0, 1, 2, 3, 4, 5, 6, 7, 8, 9, 10,
        11, 12, 15, 16, 17, 18, 19, 23, 24, 25, 47, 48, 49, 255, 599, 600, 601, 1728, 1 << 15, 1 << 16, 1 << 24, 1 << 28, 1 << 30, GREATEST - 1, GREATEST};
    private static final String[] TEXTS = {RIGHT, EVEN_SIDED + ";" + BY_19, OF_4 + ";t1:-9,-8,-7/9,8,7/-6,5,4/3,-9,9", tets(48), tets(45), "b3:-9,-9,-9/9,9,9;p2:9/9,1/1,9/-9,-8",
        "t0:0,0,0/1,1,1/2,2,2/3,3,3", "t0:0,0,0/1,0,0/0,1,0/0,0,1;x", "", "  ", "t0:-9,-9,-9/9,9,-9/9,-9,9/-9,9,9;t2:9,9,9/-9,9,9/9,-9,9/9,9,-9"};

    public static void main(String[] args) throws ReflectiveOperationException {
        about("any arguments in any state");
        List<Method> methods = new ArrayList<>();
        for (Method method : ScissorsTable.class.getDeclaredMethods()) {
            if (Modifier.isPublic(method.getModifiers())) {
                methods.add(method);
            }
        }
        methods.sort(Comparator.comparing(Method::getName));
        due("methods", methods.size(), 38);
        for (int seed = 0; seed < RUNS; seed++) {
            due("the same calls again, seed " + seed, run(methods, seed), run(methods, seed));
        }
        close("WildTest");
    }

    private static String run(List<Method> methods, int seed) throws ReflectiveOperationException {
        Random random = new Random(seed);
        ScissorsTable table = written(TEXTS[seed % TEXTS.length]);
        table.text();
        StringBuilder answers = new StringBuilder();
        for (int k = 0; k < CALLS; k++) {
            Method method = methods.get(random.nextInt(methods.size()));
            Object[] with = new Object[method.getParameterCount()];
            for (int a = 0; a < with.length; a++) {
                // Small ones more often, so that calls are done, too.
                with[a] = random.nextInt(3) == 0 ? WILD[random.nextInt(WILD.length)] : random.nextInt(6);
            }
            answers.append(answer(table, method, with)).append(' ');
        }
        return answers.toString();
    }

    private static String answer(ScissorsTable table, Method method, Object[] with) throws ReflectiveOperationException {
        try {
            return String.valueOf(method.invoke(table, with));
        } catch (InvocationTargetException e) {
            boolean due = method.getName().equals("tet") && e.getCause().getClass() == NoSuchElementException.class;
            due(method.getName() + java.util.Arrays.toString(with) + " throws " + e.getCause(), due, true);
            return "throws";
        }
    }
}
