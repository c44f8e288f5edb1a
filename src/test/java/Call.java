import java.lang.reflect.InvocationTargetException;
import java.lang.reflect.Method;
import java.lang.reflect.Modifier;
import java.util.Arrays;
import java.util.HashMap;
import java.util.Map;

/** One call of the face, that can be made on any object with its methods; a boolean answer counts 1 or 0. */
record Call(String name, int... args) {
    private static final Map<String, Method> METHODS = new HashMap<>();

    long on(Object net) {
        try {
            Object answer = method(net.getClass()).invoke(net, Arrays.stream(args).boxed().toArray());
            return answer instanceof Boolean truth ? (truth ? 1 : 0) : (Integer) answer;
        } catch (InvocationTargetException e) {
            throw new IllegalStateException(this + " threw", e.getCause());
        } catch (IllegalAccessException e) {
            throw new IllegalStateException(this + " can't be called", e);
        }
    }

    private Method method(Class<?> type) {
        return METHODS.computeIfAbsent(type.getName() + "." + name, key -> Arrays.stream(type.getDeclaredMethods())
                .filter(method -> method.getName().equals(name) && !Modifier.isPrivate(method.getModifiers()))
                .findFirst().orElseThrow());
    }

    /** Whether an answer says that this call was refused. */
    boolean isRefusedBy(long answer) {
        return switch (name) {
            case "task", "region", "guard", "items", "launch", "cancel", "set" -> answer == 0;
            case "fire", "start", "finish", "fail", "item", "covers" -> answer < 0;
            default -> false;
        };
    }

    @Override
    public String toString() {
        String list = Arrays.toString(args);
        return name + "(" + list.substring(1, list.length() - 1) + ")";
    }
}
