import java.lang.reflect.InvocationTargetException;
import java.lang.reflect.Method;
import java.lang.reflect.Modifier;
import java.util.Map;
import java.util.TreeMap;

/** A run of calls on one object, each told as a text ("face 34 20 1"); MIN, MAX are the ends of an int. */
final class Run {
    /** What later calls answer is free, so that no test may go by it. */
    private static final int MOST_CALLS = 512;
    private static final Map<String, Method> CALLS = publicCalls();

    private final GoneRed x = new GoneRed();
    private int calls = 0;

    private static Map<String, Method> publicCalls() {
        Map<String, Method> calls = new TreeMap<>();
        for (Method m : GoneRed.class.getDeclaredMethods()) {
            if (Modifier.isPublic(m.getModifiers())) {
                calls.put(m.getName(), m);
            }
        }
        return calls;
    }

    /** A new object with THE LAW of a text. */
    static Run by(String law) {
        return new Run().law(law);
    }

    private static int number(String word) {
        return word.equals("MIN") ? Integer.MIN_VALUE : word.equals("MAX") ? Integer.MAX_VALUE : Integer.parseInt(word);
    }

    long ask(String call) {
        String[] words = call.trim().split(" +");
        Method m = CALLS.get(words[0]);
        if (m == null || m.getParameterCount() != words.length - 1) {
            throw new IllegalArgumentException("no call: " + call);
        }
        Object[] with = new Object[words.length - 1];
        for (int i = 0; i < with.length; i++) {
            with[i] = number(words[i + 1]);
        }
        calls++;
        if (calls > MOST_CALLS) {
            throw new IllegalStateException("call " + calls + " is promised nothing: " + call);
        }
        try {
            return ((Number) m.invoke(x, with)).longValue();
        } catch (InvocationTargetException e) {
            Due.that(call + " threw " + e.getCause(), false);
            return Long.MIN_VALUE;
        } catch (IllegalAccessException e) {
            throw new IllegalStateException(e);
        }
    }

    int calls() {
        return calls;
    }

    /** Each of these calls answers so. */
    Run is(long want, String... told) {
        for (String call : told) {
            Due.is(call, want, ask(call));
        }
        return this;
    }

    /** What is done on the way to a test: none of it may be refused. */
    Run go(String... told) {
        for (String call : told) {
            Due.that(call + " is not refused", ask(call) >= 0);
        }
        return this;
    }

    /** The bytes of a text (each sign one) come on THE TAPE, five a call. */
    Run tape(String text) {
        for (int i = 0; i < text.length(); i += 5) {
            int n = Math.min(5, text.length() - i);
            StringBuilder call = new StringBuilder("feed " + n);
            for (int k = 0; k < 5; k++) {
                call.append(' ').append(k < n ? (int) text.charAt(i + k) : 0);
            }
            Due.that(call + " has room", ask(call.toString()) > 0);
        }
        return this;
    }

    long text(String text) {
        return tape(text).ask("text");
    }

    Run law(String text) {
        return go("force " + text(text));
    }

    /** A SHEET of a sort with these numbers. */
    Run sheet(int s, int sort, int... numbers) {
        go("sheet " + s + " " + sort + " " + numbers.length);
        for (int i = 0; i < numbers.length; i++) {
            go("cell " + s + " " + i + " " + numbers[i]);
        }
        return this;
    }
}
