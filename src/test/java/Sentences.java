import java.lang.reflect.InvocationTargetException;
import java.lang.reflect.Method;
import java.lang.reflect.Modifier;
import java.util.Arrays;
import java.util.Comparator;

/** Runs each test of a class under the sentence that it stands for, and names those that are broken. */
final class Sentences {
    private Sentences() {
    }

    static void runAll(Class<?> tests) {
        Method[] methods = tests.getDeclaredMethods();
        Arrays.sort(methods, Comparator.comparing(Method::getName));
        int held = 0;
        int broken = 0;
        for (Method method : methods) {
            if (isTest(method)) {
                boolean holds = holds(method);
                held += holds ? 1 : 0;
                broken += holds ? 0 : 1;
            }
        }
        System.out.println(held + " sentences hold, " + broken + " are broken");
        Due.is("there are tests", held + broken > 0, true);
        Due.finish();
    }

    /** Without the annotation it is a test all the same: none is to be left out unseen. */
    private static boolean isTest(Method method) {
        return Modifier.isStatic(method.getModifiers()) && method.getParameterCount() == 0
                && method.getReturnType() == void.class && !method.isSynthetic();
    }

    private static boolean holds(Method test) {
        Sentence sentence = test.getAnnotation(Sentence.class);
        int wrongBefore = Due.wrong();
        Due.is("the sentence of " + test.getName(), sentence != null, true);
        try {
            test.invoke(null);
        } catch (InvocationTargetException e) {
            Due.is(test.getName(), "throws " + e.getCause(), "an end");
        } catch (IllegalAccessException e) {
            Due.is(test.getName(), "is hidden", "to be seen");
        }
        if (Due.wrong() == wrongBefore) {
            return true;
        }
        String words = sentence == null ? "" : " " + sentence.of() + ": " + sentence.words();
        System.out.println("BROKEN (" + test.getName() + ")" + words);
        return false;
    }
}
