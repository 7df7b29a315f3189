import java.lang.reflect.InvocationTargetException;
import java.lang.reflect.Method;
import java.lang.reflect.Modifier;
import java.util.Map;
import java.util.TreeMap;

/** A run of calls on a new object, the calls told as texts: due("allow(0)", AMOUNT + 4). */
final class Run {
    /** Refusals of amounts and of longs are told as one of these less the number. */
    static final long AMOUNT = 1000000000L;
    static final long LONG = 4000000000000000000L;
    static final int LEAST = Integer.MIN_VALUE;
    static final int GREATEST = Integer.MAX_VALUE;
    static final int MOST_CALLS = 512;

    private static final Map<String, Method> FACE = faceOf(TaxedByLongest.class);
    private final TaxedByLongest object = new TaxedByLongest();
    private final StringBuilder lands = new StringBuilder();
    private int calls = 0;

    static Map<String, Method> faceOf(Class<?> type) {
        Map<String, Method> methods = new TreeMap<>();
        for (Method method : type.getDeclaredMethods()) {
            if (Modifier.isPublic(method.getModifiers())) {
                methods.put(method.getName(), method);
            }
        }
        return methods;
    }

    /** A new object to which a land was told; "" tells none. */
    static Run of(String land) {
        Run run = new Run();
        return land.isEmpty() ? run : run.tell(land);
    }

    int calls() {
        return calls;
    }

    long ask(String call) {
        int open = call.indexOf('(');
        String inside = call.substring(open + 1, call.length() - 1).trim();
        String[] parts = inside.isEmpty() ? new String[0] : inside.split(", *");
        Object[] args = new Object[parts.length];
        for (int i = 0; i < parts.length; i++) {
            args[i] = Integer.valueOf(parts[i]);
        }
        return invoke(call.substring(0, open), args);
    }

    private long invoke(String name, Object... args) {
        calls++;
        if (calls > MOST_CALLS) {
            throw new IllegalStateException("a run has " + MOST_CALLS + " calls at most");
        }
        try {
            return ((Number) FACE.get(name).invoke(object, args)).longValue();
        } catch (IllegalAccessException | InvocationTargetException thrown) {
            throw new IllegalStateException(name + " threw", thrown);
        }
    }

    Run due(String call, long want) {
        Check.due("[" + lands + "] " + call, ask(call), want);
        return this;
    }

    /** One call a number: due("worth", 5, 7) asks worth(0) and worth(1). */
    Run dueEach(String name, long... want) {
        for (int i = 0; i < want.length; i++) {
            due(name + "(" + i + ")", want[i]);
        }
        return this;
    }

    Run letters(String text) {
        for (char letter : text.toCharArray()) {
            invoke("letter", (int) letter);
        }
        return this;
    }

    /** Tells a text and lets it become a land, or not. */
    Run land(String text, long want) {
        letters(text);
        Check.due("[" + lands + "] land of " + text, invoke("land"), want);
        lands.append(want < 0 ? "" : text);
        return this;
    }

    /** Tells a text that has to be a land. */
    Run tell(String text) {
        letters(text);
        if (invoke("land") < 1) {
            throw new IllegalStateException(text + " is no land");
        }
        lands.append(text);
        return this;
    }

    /** Tells what is done, one digit a day from the first. */
    Run year(String digits) {
        for (int day = 0; day < digits.length(); day++) {
            if (invoke("does", day, digits.charAt(day) - '0') < 0) {
                throw new IllegalStateException("day " + day + " of " + digits + " is refused");
            }
        }
        return this;
    }

    Run row(String digits) {
        for (char digit : digits.toCharArray()) {
            invoke("row", digit - '0');
        }
        return this;
    }

    /** All that is told, as far as calls can see it; they leave it as it was. */
    String state() {
        StringBuilder state = new StringBuilder();
        for (int what = 0; what <= 7; what++) {
            state.append(invoke("count", what)).append(what < 7 ? " " : ";");
        }
        for (int thing = 0; thing < invoke("count", 0); thing++) {
            for (int what = 0; what < 4; what++) {
                state.append(' ').append(invoke("thing", thing, what));
            }
        }
        for (int day = 0; day < invoke("count", 1); day++) {
            state.append(' ').append(invoke("done", day)).append('/').append(boundTo(day));
        }
        return state.toString();
    }

    private long boundTo(int day) {
        long thing = invoke("bind", day, -1);
        if (thing >= 0) {
            invoke("bind", day, (int) thing);
        }
        return thing;
    }

    /** How many refusals there were, -1 to -6. */
    String refusals() {
        StringBuilder refusals = new StringBuilder();
        for (int what = 11; what <= 16; what++) {
            refusals.append(invoke("count", what)).append(what < 16 ? " " : "");
        }
        return refusals.toString();
    }
}
