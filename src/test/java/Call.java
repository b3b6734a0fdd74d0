import java.lang.reflect.InvocationTargetException;
import java.lang.reflect.Method;
import java.util.Arrays;

/** A call by its name, with numbers for arguments; no two calls of the face have one name. */
record Call(String name, long... args) {
    static Method method(String name) {
        for (Method m : MarkTree.class.getMethods()) {
            if (m.getDeclaringClass() == MarkTree.class && m.getName().equals(name)) return m;
        }
        throw new IllegalArgumentException("no call " + name);
    }

    Call with(int i, long value) {
        long[] others = args.clone();
        others[i] = value;
        return new Call(name, others);
    }

    long on(MarkTree x) {
        Method m = method(name);
        Class<?>[] types = m.getParameterTypes();
        Object[] given = new Object[args.length];
        for (int i = 0; i < given.length; i++) {
            if (types[i] == long.class) given[i] = args[i];
            else given[i] = Math.toIntExact(args[i]);
        }
        try {
            return ((Number) m.invoke(x, given)).longValue();
        } catch (IllegalAccessException | InvocationTargetException e) {
            throw new IllegalStateException(this + " threw", e);
        }
    }

    @Override
    public String toString() {
        String inside = Arrays.toString(args);
        return name + "(" + inside.substring(1, inside.length() - 1) + ")";
    }
}
