import java.lang.reflect.InvocationTargetException;
import java.lang.reflect.Method;
import java.lang.reflect.Modifier;
import java.util.ArrayList;
import java.util.Arrays;
import java.util.Comparator;
import java.util.List;
import java.util.Random;

/**
 * Any calls in any state with any arguments: none throws (LANGUAGE.md, rule 7), and the same calls
 * give the same answers (rule 13).
 */
public final class AnyArgumentsTest {
    private static final int[] EDGES = {Integer.MIN_VALUE, Integer.MIN_VALUE + 1, -1000, -10, -9, -2, -1, 0, 1, 2, 3, 4,
        5, 6, 7, 9, 10, 19, 29, 30, 39, 40, 49, 50, 59, 60, 61, 99, 100, 119, 120, 121, 399, 400, 401, 999, 1000,
        9999, 10000, 999999, 1000000, Integer.MAX_VALUE - 1, Integer.MAX_VALUE};
    private static final String[] STATES = {World.NEW, World.RICH, World.FULL};
    private static final String SIGNS = "0123456789+-;/,wvspqi!()*%<=>&|? ";
    private static final int MOST_CALLS = 300;

    private static final List<Method> FACE = new ArrayList<>();
    private static final Check CHECK = new Check();

    public static void main(String[] args) {
        for (Method m : TurnsOneWay.class.getDeclaredMethods()) {
            if (Modifier.isPublic(m.getModifiers())) FACE.add(m);
        }
        // the machine tells them in no certain order
        FACE.sort(Comparator.comparing(Method::getName));
        int runs = args.length > 0 ? Integer.parseInt(args[0]) : 600;
        for (int seed = 0; seed < runs; seed++) {
            List<Long> once = run(seed), again = run(seed);
            CHECK.due("run " + seed + ": the same answers again", once.equals(again) ? 1 : 0, 1);
            CHECK.due("run " + seed + ": calls that were answered", once.size(), MOST_CALLS);
        }
        CHECK.close();
    }

    /** The answers, as far as calls did not throw. */
    private static List<Long> run(int seed) {
        Random random = new Random(seed);
        TurnsOneWay x = World.of(STATES[seed % STATES.length]);
        List<Long> answers = new ArrayList<>();
        while (answers.size() < MOST_CALLS) {
            Method call = FACE.get(random.nextInt(FACE.size()));
            Object[] given = new Object[call.getParameterCount()];
            for (int i = 0; i < given.length; i++) {
                int v = argument(random);
                given[i] = call.getParameterTypes()[i] == long.class ? (Object) ((long) v << random.nextInt(33)) : (Object) v;
            }
            if (call.getName().equals("feed") && random.nextInt(4) > 0) given = new Object[] {4, signs(random)};
            try {
                answers.add(((Number) call.invoke(x, given)).longValue());
            } catch (IllegalAccessException | InvocationTargetException e) {
                System.out.println("run " + seed + ": " + call.getName() + Arrays.toString(given) + " threw " + e.getCause());
                return answers;
            }
        }
        return answers;
    }

    private static int argument(Random random) {
        int dice = random.nextInt(8);
        return dice == 0 ? random.nextInt() : dice < 3 ? EDGES[random.nextInt(EDGES.length)] : random.nextInt(10) - dice % 2;
    }

    private static int signs(Random random) {
        int v = 0;
        for (int i = 0; i < 4; i++) v = v << 8 | SIGNS.charAt(random.nextInt(SIGNS.length()));
        return v;
    }
}
