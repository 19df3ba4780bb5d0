import java.lang.reflect.InvocationTargetException;
import java.lang.reflect.Method;
import java.lang.reflect.Modifier;

/**
 * "No call may ever throw" (LANGUAGE.md, rule 7): every call with every mixture of arguments at and beyond the
 * document's limits, in states at the limits; and every answer is a finding or one that the document knows.
 */
public final class ExtremesTest {
    private static final long[] VALUES = {
        Integer.MIN_VALUE, Integer.MIN_VALUE + 1, -4096, -12, -2, -1, 0, 1, 2, 3, 4, 5, 6, 7, 8, 11, 12, 13, 16, 20, 21,
        31, 32, 39, 40, 41, 60, 61, 63, 64, 65, 120, 4095, 4096, 9999, 10000, Integer.MAX_VALUE - 1, Integer.MAX_VALUE,
    };
    /** Of a call with more arguments, as all mixtures would be too many. */
    private static final long[] FEWER = {Integer.MIN_VALUE, -1, 0, 1, 2, 3, 4, 12, 40, 41, Integer.MAX_VALUE};
    private static final long[] LONGS = {Long.MIN_VALUE, -1, 0, 255, 0x0B0A_0908_0706_0504L, Long.MAX_VALUE};
    /** An object is made anew then, as the document speaks of 512 calls; its making takes up to 240. */
    private static final int CALLS = 250;
    private static final Due due = new Due();

    private final Method call;
    private final int state;
    private final Object[] arguments;
    private FugueNotes x;
    private int calls = 0;
    private int thrown = 0;
    private int strange = 0;

    private ExtremesTest(Method call, int state) {
        this.call = call;
        this.state = state;
        arguments = new Object[call.getParameterCount()];
        x = States.make(state);
    }

    public static void main(String[] args) throws IllegalAccessException {
        for (Method call : FugueNotes.class.getDeclaredMethods()) {
            if (!Modifier.isPublic(call.getModifiers())) {
                continue;
            }
            for (int state = States.NEW; state <= States.LAST_DAY; state++) {
                ExtremesTest test = new ExtremesTest(call, state);
                test.mix(0);
                String where = call.getName() + " (" + States.NAMES[state] + ")";
                due.is(where + " has thrown", test.thrown, 0);
                due.is(where + " had strange answers", test.strange, 0);
            }
        }
        due.end();
    }

    private void mix(int argument) throws IllegalAccessException {
        if (argument == arguments.length) {
            callOnce();
            return;
        }
        boolean isLong = call.getParameterTypes()[argument] == long.class;
        long[] values = isLong ? LONGS : arguments.length > 2 ? FEWER : VALUES;
        for (long v : values) {
            if (isLong) {
                arguments[argument] = v;
            } else {
                arguments[argument] = (int) v;
            }
            mix(argument + 1);
        }
    }

    private void callOnce() throws IllegalAccessException {
        if (calls == CALLS) {
            x = States.make(state);
            calls = 0;
        }
        calls++;
        try {
            long answer = ((Number) call.invoke(x, arguments)).longValue();
            if (!isKnown(answer)) {
                strange++;
            }
        } catch (InvocationTargetException e) {
            thrown++;
        }
    }

    /** No answer but a number of a sheet is greater than WROTE of eight together. */
    private boolean isKnown(long answer) {
        boolean isFinding = answer >= Due.SIZE && answer <= Due.BEYOND;
        return isFinding || call.getName().equals("write") || answer >= -121 && answer <= 8 * 9999;
    }
}
