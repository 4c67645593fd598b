import java.lang.reflect.Method;
import java.util.HashMap;
import java.util.Map;

/** An AheadRows and a Model that get the same calls; each answer is held against the other's. */
final class Pair {
    private static final Map<String, Method> METHODS = new HashMap<>();

    private final AheadRows real = new AheadRows();
    private final Model model = new Model();
    private final Due due;
    private final String name;

    Pair(Due due, String name) {
        this.due = due;
        this.name = name;
    }

    /** How many rows there are, by the model. */
    int rows() {
        return model.count(0);
    }

    Pair call(String method, int... arguments) throws ReflectiveOperationException {
        Object[] values = new Object[arguments.length];
        StringBuilder call = new StringBuilder(method).append('(');
        for (int i = 0; i < arguments.length; i++) {
            values[i] = arguments[i];
            call.append(i == 0 ? "" : ", ").append(arguments[i]);
        }
        call.append(')');
        Object got = method(AheadRows.class, method, arguments.length).invoke(real, values);
        Object want = method(Model.class, method, arguments.length).invoke(model, values);
        due.is(name + ": " + call, ((Number) got).longValue(), ((Number) want).longValue());
        return this;
    }

    /** Types a text, without asking what letter() answers. */
    Pair type(String text) {
        for (int i = 0; i < text.length(); i++) {
            real.letter(text.charAt(i));
            model.letter(text.charAt(i));
        }
        return this;
    }

    private static Method method(Class<?> owner, String name, int arguments) {
        return METHODS.computeIfAbsent(owner.getName() + "." + name, key -> {
            for (Method method : owner.getMethods()) {
                if (method.getName().equals(name) && method.getParameterCount() == arguments) return method;
            }
            throw new IllegalStateException("no " + key);
        });
    }
}
