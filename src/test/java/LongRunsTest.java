import java.lang.reflect.InvocationTargetException;
import java.lang.reflect.Method;
import java.lang.reflect.Modifier;
import java.util.ArrayList;
import java.util.Arrays;
import java.util.Comparator;
import java.util.List;

/**
 * Far more calls than an object is used for, with any arguments: whatever they answer, nothing but what the head of
 * the method names is thrown, and by no machine (its exceptions are classes below the named ones).
 */
public final class LongRunsTest {
    private static final int RUNS = 60;
    private static final int CALLS = 4000;
    private static final int[] WILD = {Integer.MIN_VALUE, Integer.MIN_VALUE + 1, -1000, -1, 60, 501, 65536,
        Integer.MAX_VALUE - 1, Integer.MAX_VALUE};
    private static final Check CHECK = new Check();

    private final List<Method> methods = new ArrayList<>();
    private final Dice dice;
    private final DraftLeague league;

    private LongRunsTest(int seed) {
        dice = new Dice(seed + 5000);
        league = new DraftLeague();
        for (Method method : DraftLeague.class.getDeclaredMethods()) {
            if (Modifier.isPublic(method.getModifiers())) {
                methods.add(method);
            }
        }
        methods.sort(Comparator.comparing(Method::getName));
    }

    public static void main(String[] args) throws IllegalAccessException {
        for (int run = 0; run < RUNS; run++) {
            new LongRunsTest(run).run();
        }
        CHECK.finish();
    }

    private void run() throws IllegalAccessException {
        int teams = dice.from(0, 8);
        for (int team = 0; team < teams; team++) {
            league.addTeam(dice.from(0, 500));
        }
        for (int call = 0; call < CALLS; call++) {
            Method method = methods.get(dice.from(0, methods.size() - 1));
            boolean rare = method.getName().startsWith("end") || method.getName().equals("setFinal");
            if (!rare || dice.chance(20)) {
                make(method);
            }
        }
    }

    private int number() {
        if (dice.chance(4)) {
            return WILD[dice.from(0, WILD.length - 1)];
        }
        return dice.chance(70) ? dice.from(-1, 9) : dice.from(-2, 100);
    }

    private void make(Method method) throws IllegalAccessException {
        Object[] numbers = new Object[method.getParameterCount()];
        for (int index = 0; index < numbers.length; index++) {
            numbers[index] = number();
        }
        try {
            method.invoke(league, numbers);
        } catch (InvocationTargetException e) {
            Class<?> thrown = e.getCause().getClass();
            boolean named = Arrays.asList(method.getExceptionTypes()).contains(thrown);
            CHECK.due(method.getName() + Arrays.toString(numbers) + " may throw " + thrown.getName(), named, true);
        }
    }
}
