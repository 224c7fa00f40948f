import java.lang.reflect.InvocationTargetException;
import java.lang.reflect.Method;

/** One call of a sentence's test, and what is due: an answer, a refusal, or whatever it answers without a refusal. */
final class Step {
    final String call;
    /** The file and its line. */
    final String place;
    final boolean isDue;
    final boolean isRefused;
    final long due;
    private final Method method;
    private final Object[] arguments;

    private Step(String call, String place, char sign, long due) {
        this.call = call;
        this.place = place;
        this.isDue = sign != ' ';
        this.isRefused = sign == '!';
        this.due = due;
        method = methodNamed(call.substring(0, call.indexOf('(')), place);
        String inside = call.substring(call.indexOf('(') + 1, call.length() - 1).trim();
        arguments = arguments(inside.isEmpty() ? new String[0] : inside.split("\\s*,\\s*"));
    }

    static Step made(String call, String place) {
        return new Step(call, place, ' ', 0);
    }

    static Step answered(String call, String place, long due) {
        return new Step(call, place, '=', due);
    }

    static Step refused(String call, String place, long due) {
        if (due > -1 || -due % 10 < 1 || -due % 10 > 7) throw new IllegalArgumentException(place + ": no such refusal");
        return new Step(call, place, '!', due);
    }

    long makeOn(AskedTheOtherWayAbout x) {
        try {
            return ((Number) method.invoke(x, arguments)).longValue();
        } catch (IllegalAccessException | InvocationTargetException e) {
            throw new IllegalStateException(place + ": " + call + " threw", e);
        }
    }

    /** Which REFUSAL counts: -10006, -16 and -6 all count as the sixth. */
    int refusalCounted() {
        return (int) (-due % 10);
    }

    /** A refused town() may tell a new FAULT, nothing else. */
    boolean mayTellFault() {
        return call.startsWith("town(") && due == -6;
    }

    static long number(String text) {
        switch (text) {
            case "MIN":
                return Integer.MIN_VALUE;
            case "MAX":
                return Integer.MAX_VALUE;
            case "LMIN":
                return Long.MIN_VALUE;
            case "LMAX":
                return Long.MAX_VALUE;
            case "NONE":
                return AskedTheOtherWayAbout.NONE;
            default:
                return Long.decode(text);
        }
    }

    private static Method methodNamed(String name, String place) {
        for (Method method : AskedTheOtherWayAbout.class.getMethods()) {
            if (method.getName().equals(name)) return method;
        }
        throw new IllegalArgumentException(place + ": no such call: " + name);
    }

    private Object[] arguments(String[] texts) {
        Class<?>[] types = method.getParameterTypes();
        if (types.length != texts.length) throw new IllegalArgumentException(place + ": arguments of " + call);
        Object[] numbers = new Object[texts.length];
        for (int i = 0; i < texts.length; i++) {
            long number = number(texts[i]);
            numbers[i] = types[i] == int.class ? (Object) Math.toIntExact(number) : (Object) number;
        }
        return numbers;
    }
}
