import java.io.IOException;
import java.lang.reflect.Method;
import java.util.Arrays;

/**
 * SPENT: no town was found whose trips go otherwise for 40 rounds (a search came to 13), so the program is compiled with
 * less of them. That there are 40 is read from its source.
 */
public final class SpentTest {
    private static final String FORTY = "ROUNDS = 40;";
    private final Class<?> face;
    private final Object town;

    private SpentTest(Compiled program) throws ReflectiveOperationException {
        face = program.load("GrownTown");
        town = face.getConstructor().newInstance();
    }

    private int call(String name, int... args) throws ReflectiveOperationException {
        Class<?>[] types = new Class<?>[args.length];
        Arrays.fill(types, int.class);
        Method method = face.getMethod(name, types);
        return (int) method.invoke(town, Arrays.stream(args).boxed().toArray());
    }

    private void due(int want, String name, int... args) throws ReflectiveOperationException {
        Check.due(name + Arrays.toString(args), call(name, args), want);
    }

    private static Compiled withRounds(int rounds) throws IOException {
        String[] program = Compiled.program();
        program[1] = program[1].replace(FORTY, "ROUNDS = " + rounds + ";");
        return new Compiled(program);
    }

    /** Two trips that go apart in the first round, and none in the second; a third one is left out. */
    private void goApart() throws ReflectiveOperationException {
        due(1, "board", 3, 2);
        due(0, "trip", 0, 4);
        due(1, "trip", 4, 0);
        due(2, "trip", 4, 5);
        due(0, "ground", 5, 1);
    }

    private void notSpent() throws ReflectiveOperationException {
        goApart();
        due(2, "balance");
        due(6, "trips", 0, 0);
        due(Check.BAD, "trips", 0, 13);
    }

    private void spent() throws ReflectiveOperationException {
        due(1, "balance");
        goApart();
        due(Check.SPENT, "balance");
        due(Check.SPENT, "balance");
        for (int what : new int[] {0, 1, 2, 10, 12}) due(Check.SPENT, "trips", 0, what);
        due(Check.SPENT, "trips", 1, 0);
        due(Check.SPENT, "trips", 0, 13);
        due(Check.SPENT, "trips", 0, Integer.MAX_VALUE);
        due(Check.STATE, "trips", 2, 0);
        due(Check.STATE, "trips", 2, 1000);
        for (int what : new int[] {-1, 3, 9}) due(Check.BAD, "trips", 0, what);
        due(Check.BAD, "trips", 2, 3);
        due(Check.BAD, "trips", 3, 0);
        due(3, "count", 8);
        due(0, "ground", 3, 1);
        due(1, "balance");
        due(10, "trips", 0, 0);
        due(1, "board", 4, 4);
        due(1, "balance");
    }

    public static void main(String[] args) throws IOException, ReflectiveOperationException {
        String source = Compiled.program()[1];
        Check.due("the program goes 40 rounds, told once", source.split(FORTY, -1).length, 2);
        try (Compiled two = withRounds(2); Compiled one = withRounds(1)) {
            new SpentTest(two).notSpent();
            new SpentTest(one).spent();
        }
        Check.finish("SpentTest");
    }
}
