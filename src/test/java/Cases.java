import java.lang.reflect.InvocationTargetException;
import java.lang.reflect.Method;
import java.util.ArrayList;
import java.util.Comparator;
import java.util.List;

/** The cases of a test class: its methods that quote the document, named p05_colony_oneHouseTooFew and so on. */
final class Cases {
    private Cases() {
    }

    static List<Method> of(Class<?> type) {
        List<Method> cases = new ArrayList<>();
        for (Method method : type.getDeclaredMethods()) {
            if (method.isAnnotationPresent(Says.class)) {
                cases.add(method);
            }
        }
        cases.sort(Comparator.comparing(Method::getName));
        return cases;
    }

    static void run(Class<?> type) throws IllegalAccessException {
        for (Method method : of(type)) {
            Checks.begin(method.getName());
            try {
                method.invoke(null);
            } catch (InvocationTargetException e) {
                Checks.due("the case", "threw " + e.getCause(), "no exception");
            }
            Checks.holdsSome();
        }
        Checks.end();
    }
}
