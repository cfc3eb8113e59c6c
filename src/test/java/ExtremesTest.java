import java.lang.reflect.Method;
import java.util.Arrays;

/**
 * Every call with every mix of far and near numbers, on new objects and on full ones: none throws
 * (LANGUAGE.md, rule 7), and each answers as PlainRock does.
 */
public final class ExtremesTest {
    private static final int[] NUMBERS = {Integer.MIN_VALUE, -1, 0, 1, 3, 60, Integer.MAX_VALUE};
    private static final int CALLS_OF_AN_OBJECT = 400;
    private static final Check check = new Check();

    private final boolean beginsFull;
    private LetteredRock rock;
    private PlainRock plain;
    private int asked = CALLS_OF_AN_OBJECT;

    private ExtremesTest(boolean beginsFull) {
        this.beginsFull = beginsFull;
    }

    public static void main(String[] args) throws ReflectiveOperationException {
        for (Method method : LetteredRock.class.getMethods()) {
            if (method.getDeclaringClass() == LetteredRock.class) {
                new ExtremesTest(false).askAll(method.getName(), method.getParameterCount());
                new ExtremesTest(true).askAll(method.getName(), method.getParameterCount());
            }
        }
        check.end();
    }

    private void askAll(String name, int parameters) throws ReflectiveOperationException {
        int mixes = 1;
        for (int k = 0; k < parameters; k++) {
            mixes *= NUMBERS.length;
        }
        for (int mix = 0; mix < mixes; mix++) {
            if (asked == CALLS_OF_AN_OBJECT) {
                begin();
            }
            ask(name, numbersOf(mix, parameters));
            asked++;
        }
        ask("count", 6);
        ask("digest");
    }

    /** An object is good for 512 calls, so the asking goes on with a new one in time. */
    private void begin() throws ReflectiveOperationException {
        rock = new LetteredRock();
        plain = new PlainRock();
        asked = 0;
        if (beginsFull) {
            fill();
        }
    }

    private void fill() throws ReflectiveOperationException {
        for (int n = 0; n < 16; n++) {
            ask("letter", 1 + n % 5, 1 + n % 9, 1 + n);
        }
        for (int n = 0; n < 10; n++) {
            ask("spell", 3, 0);
            ask("spell", 1, 4);
        }
        for (int n = 0; n < 40; n++) {
            ask("lump", 3, n % 10, 0, 1);
        }
        for (int s = 0; s < 4; s++) {
            ask("sheet", s, s == 3 ? 0 : 1, 60);
            ask("put", s, 1, 0, s);
        }
    }

    private static int[] numbersOf(int mix, int parameters) {
        int[] numbers = new int[parameters];
        int rest = mix;
        for (int k = 0; k < parameters; k++) {
            numbers[k] = NUMBERS[rest % NUMBERS.length];
            rest /= NUMBERS.length;
        }
        return numbers;
    }

    private void ask(String name, int... numbers) throws ReflectiveOperationException {
        String call = name + Arrays.toString(numbers);
        check.due(call, Calls.answer(rock, name, numbers), Calls.answer(plain, name, numbers));
    }
}
