import java.lang.reflect.Method;

/** Asks an object a call by its name, so that the class and PlainRock can be asked the same. */
final class Calls {
    private Calls() {
    }

    /** A flag is told as a number too: it is set, if that is not 0. */
    static long answer(Object target, String name, int... numbers) throws ReflectiveOperationException {
        for (Method method : target.getClass().getDeclaredMethods()) {
            if (method.getName().equals(name)) {
                return ((Number) method.invoke(target, arguments(method, numbers))).longValue();
            }
        }
        throw new NoSuchMethodException(name);
    }

    private static Object[] arguments(Method method, int[] numbers) {
        Object[] arguments = new Object[numbers.length];
        for (int k = 0; k < numbers.length; k++) {
            boolean isFlag = method.getParameterTypes()[k] == boolean.class;
            if (isFlag) {
                arguments[k] = numbers[k] != 0;
            } else {
                arguments[k] = numbers[k];
            }
        }
        return arguments;
    }
}
