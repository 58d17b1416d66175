import java.lang.reflect.Method;
import java.lang.reflect.Modifier;
import java.util.HashMap;
import java.util.Map;

/** A call by its method's name, on the class or on the model; a boolean argument is given as 0 or 1. */
final class Call {
    private static final Map<String, Method> OF_CLASS = methodsOf(NumerationSystems.class);
    private static final Map<String, Method> OF_MODEL = methodsOf(Model.class);

    final String name;
    private final int[] arguments;

    Call(String name, int... arguments) {
        this.name = name;
        this.arguments = arguments;
    }

    private static Map<String, Method> methodsOf(Class<?> asked) {
        Map<String, Method> methods = new HashMap<>();
        for (Method method : asked.getDeclaredMethods()) {
            if (!Modifier.isPrivate(method.getModifiers())) {
                methods.put(method.getName(), method);
            }
        }
        return methods;
    }

    long on(NumerationSystems x) {
        return answerOf(x, OF_CLASS.get(name));
    }

    long on(Model x) {
        return answerOf(x, OF_MODEL.get(name));
    }

    private long answerOf(Object x, Method method) {
        Object[] given = new Object[arguments.length];
        for (int i = 0; i < given.length; i++) {
            given[i] = method.getParameterTypes()[i] == boolean.class ? (Object) (arguments[i] == 1) : (Object) arguments[i];
        }
        try {
            return ((Number) method.invoke(x, given)).longValue();
        } catch (ReflectiveOperationException e) {
            throw new IllegalStateException(this + " failed", e);
        }
    }

    /** The same call with another argument at a place. */
    Call with(int place, int argument) {
        int[] others = arguments.clone();
        others[place] = argument;
        return new Call(name, others);
    }

    @Override
    public String toString() {
        StringBuilder text = new StringBuilder(name + "(");
        for (int i = 0; i < arguments.length; i++) {
            text.append(i == 0 ? "" : ", ").append(arguments[i]);
        }
        return text.append(")").toString();
    }
}
