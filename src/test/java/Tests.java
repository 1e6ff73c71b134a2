import java.lang.reflect.InvocationTargetException;
import java.lang.reflect.Method;
import java.lang.reflect.Modifier;
import java.util.Arrays;
import java.util.Comparator;

/** Runs each test of a class under its own name, so that none can be written and then forgotten. */
final class Tests {
    private Tests() {
    }

    static void run(Class<?> tests, Check check) {
        Method[] methods = tests.getDeclaredMethods();
        Arrays.sort(methods, Comparator.comparing(Method::getName));
        int number = 0;
        for (Method method : methods) {
            if (isTest(method)) {
                number++;
                check.begin(method.getName());
                call(method, check);
            }
        }
        if (number == 0) {
            check.report("there is no test in " + tests.getName());
        }
        System.out.println(number + " tests");
        check.end();
    }

    /** A test is package-visible, static and without arguments; what only helps a test is private. */
    private static boolean isTest(Method method) {
        int modifiers = method.getModifiers();
        return Modifier.isStatic(modifiers) && !Modifier.isPrivate(modifiers) && !Modifier.isPublic(modifiers)
            && !method.isSynthetic() && method.getParameterCount() == 0;
    }

    private static void call(Method method, Check check) {
        try {
            method.invoke(null);
        } catch (InvocationTargetException e) {
            check.report("ended with " + e.getCause());
        } catch (IllegalAccessException e) {
            check.report("could not be called");
        }
    }
}
