import java.lang.reflect.Method;
import java.lang.reflect.Modifier;
import java.util.ArrayList;
import java.util.HashMap;
import java.util.List;
import java.util.Map;
import java.util.Set;

/** A call of the class, read from a text such as "take(0, 1, 999)". */
final class Call {
    private static final Set<String> NAME_FAULTS =
            Set.of("picture", "change", "act", "proves", "sheet", "put", "cell", "copy", "as");
    private static final Map<String, Method> METHODS = methods();

    private final Method method;
    private final Object[] arguments;

    private Call(Method method, Object[] arguments) {
        this.method = method;
        this.arguments = arguments;
    }

    /** One call for each choice of arguments: "take(0|1, 0, -1|MIN)" is four calls. */
    static List<Call> each(String text) {
        Method method = METHODS.get(text.substring(0, text.indexOf('(')));
        String inside = text.substring(text.indexOf('(') + 1, text.indexOf(')'));
        String[] choices = inside.isEmpty() ? new String[0] : inside.split(",");
        if (method == null || method.getParameterCount() != choices.length) {
            throw new IllegalArgumentException(text);
        }
        List<Call> calls = new ArrayList<>();
        choose(method, choices, new Object[choices.length], 0, calls);
        return calls;
    }

    static Call one(String text) {
        List<Call> calls = each(text);
        if (calls.size() != 1) {
            throw new IllegalArgumentException(text);
        }
        return calls.get(0);
    }

    private static void choose(Method method, String[] choices, Object[] chosen, int at, List<Call> calls) {
        if (at == choices.length) {
            calls.add(new Call(method, chosen.clone()));
            return;
        }
        for (String choice : choices[at].split("\\|")) {
            chosen[at] = number(choice.trim());
            choose(method, choices, chosen, at + 1, calls);
        }
    }

    private static int number(String text) {
        switch (text) {
            case "MIN": return Integer.MIN_VALUE;
            case "MAX": return Integer.MAX_VALUE;
            default: return Integer.parseInt(text);
        }
    }

    private static Map<String, Method> methods() {
        Map<String, Method> methods = new HashMap<>();
        for (Method method : PicturePapers.class.getDeclaredMethods()) {
            if (Modifier.isPublic(method.getModifiers())) {
                methods.put(method.getName(), method);
            }
        }
        return methods;
    }

    /** The same call with other arguments at some places: {place, argument} each. */
    Call with(List<int[]> others) {
        Object[] changed = arguments.clone();
        for (int[] other : others) {
            changed[other[0]] = other[1];
        }
        return new Call(method, changed);
    }

    long on(PicturePapers x) {
        try {
            return ((Number) method.invoke(x, arguments)).longValue();
        } catch (ReflectiveOperationException thrown) {
            throw new IllegalStateException(this + " threw", thrown);
        }
    }

    boolean namesFaults() {
        return NAME_FAULTS.contains(method.getName());
    }

    @Override
    public String toString() {
        StringBuilder text = new StringBuilder(method.getName()).append('(');
        for (int k = 0; k < arguments.length; k++) {
            text.append(k == 0 ? "" : ", ").append(arguments[k]);
        }
        return text.append(')').toString();
    }
}
