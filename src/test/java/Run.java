import java.lang.reflect.InvocationTargetException;
import java.lang.reflect.Method;
import java.lang.reflect.Modifier;
import java.util.ArrayList;
import java.util.LinkedHashMap;
import java.util.List;
import java.util.Map;

/** A run of calls on one new object, each told by its name and numbers, true being 1; the answers are kept. */
final class Run {
    private static final int MOST_CALLS = 512;
    private static final Map<String, Method> FACE = new LinkedHashMap<>();

    static {
        for (Method method : AuditgateReeve.class.getDeclaredMethods()) {
            if (Modifier.isPublic(method.getModifiers())) {
                FACE.put(method.getName(), method);
            }
        }
    }

    final List<String> calls = new ArrayList<>();
    final List<String> answers = new ArrayList<>();
    private final AuditgateReeve reeve = new AuditgateReeve();

    static Iterable<String> names() {
        return FACE.keySet();
    }

    /** The exceptions in the order of the throws clause. */
    static List<String> exceptionsOf(String name) {
        List<String> all = new ArrayList<>();
        for (Class<?> type : FACE.get(name).getExceptionTypes()) {
            all.add(type.getSimpleName());
        }
        return all;
    }

    /** The answer, or throws. and the name of what was thrown. */
    String call(String name, int... numbers) {
        Method method = FACE.get(name);
        Class<?>[] types = method.getParameterTypes();
        Object[] arguments = new Object[types.length];
        StringBuilder told = new StringBuilder(name).append('(');
        for (int i = 0; i < types.length; i++) {
            boolean isTruth = types[i] == boolean.class;
            arguments[i] = isTruth ? (Object) (numbers[i] == 1) : (Object) numbers[i];
            told.append(i == 0 ? "" : ", ").append(arguments[i]);
        }
        calls.add(told.append(')').toString());
        if (calls.size() > MOST_CALLS) {
            Check.report("a run of more than " + MOST_CALLS + " calls tests nothing");
        }
        String answer;
        try {
            answer = String.valueOf(method.invoke(reeve, arguments));
        } catch (InvocationTargetException thrown) {
            answer = "throws." + thrown.getCause().getClass().getSimpleName();
        } catch (IllegalAccessException closed) {
            answer = closed.toString();
        }
        answers.add(answer);
        return answer;
    }

    String lastCall() {
        return calls.get(calls.size() - 1);
    }
}
