import java.lang.reflect.InvocationTargetException;
import java.lang.reflect.Method;
import java.lang.reflect.Modifier;

/**
 * Every call with the least and greatest numbers and those at edges as its arguments, in all their
 * combinations and in several states: nothing is thrown, and each answer is that of the model.
 */
public final class ExtremesTest {
    private static final int[] NUMBERS =
        {Integer.MIN_VALUE, -1, 0, 1, 6, 16, 48, Integer.MAX_VALUE};
    private static final int[] MORE_NUMBERS = {Integer.MIN_VALUE, Integer.MIN_VALUE + 1, -1001,
        -10, -9, -8, -2, -1, 0, 1, 2, 3, 4, 5, 6, 7, 8, 9, 15, 16, 17, 31, 32, 46, 47, 48, 49, 59,
        60, 61, 126, 127, 128, 255, 256, 65536, Integer.MAX_VALUE - 1, Integer.MAX_VALUE};
    private static final int MOST_CALLS = 512;

    private LimbScore x;
    private Model model;
    private int calls;

    public static void main(String[] args) throws Exception {
        for (int state = 0; state < 5; state++) {
            for (Method call : LimbScore.class.getDeclaredMethods()) {
                if (Modifier.isPublic(call.getModifiers())) {
                    new ExtremesTest().sweep(state, call);
                }
            }
        }
        Due.end();
    }

    /** All combinations of the numbers, counted like the digits of a number. */
    private void sweep(int state, Method call) throws Exception {
        int[] numbers = call.getParameterCount() > 2 ? NUMBERS : MORE_NUMBERS;
        Method second = Model.class.getDeclaredMethod(call.getName(), call.getParameterTypes());
        int combinations = (int) Math.pow(numbers.length, call.getParameterCount());
        calls = MOST_CALLS;
        for (int combination = 0; combination < combinations; combination++) {
            Object[] arguments = new Object[call.getParameterCount()];
            int left = combination;
            for (int i = 0; i < arguments.length; i++) {
                arguments[i] = numbers[left % numbers.length];
                left /= numbers.length;
            }
            if (calls >= MOST_CALLS - 1) {
                begin(state);
            }
            answer(state, call, second, arguments);
        }
    }

    private void answer(int state, Method call, Method second, Object[] arguments)
            throws Exception {
        String told = "state " + state + ": " + call.getName()
                + java.util.Arrays.toString(arguments);
        int due = (Integer) second.invoke(model, arguments);
        calls++;
        try {
            Due.is(told, (Integer) call.invoke(x, arguments), due);
        } catch (InvocationTargetException thrown) {
            Due.is(told + " threw " + thrown.getCause(), 1, 0);
        }
        if (due > -1000 && calls < MOST_CALLS) {
            calls++;
            Due.is(told + ", then undo", x.undo(), model.undo());
        }
    }

    /** A state, made in the class and in the model: from empty to all limits reached. */
    private void begin(int state) {
        x = new LimbScore();
        model = new Model();
        calls = 0;
        if (state == 1) {
            leastScore();
        } else if (state >= 2) {
            fill(state);
        }
    }

    private void leastScore() {
        same(x.reset(4), model.reset(4));
        same(x.setLeap(0), model.setLeap(0));
        same(x.addMove(0, 0, 1, 2, 0), model.addMove(0, 0, 1, 2, 0));
        same(x.addHold(1, 3), model.addHold(1, 3));
        same(x.addTurn(1, 2, -8), model.addTurn(1, 2, -8));
        same(x.addRelease(6, 3, 1), model.addRelease(6, 3, 1));
    }

    /** The longest score, with ever more signs; in the last state also the longest text. */
    private void fill(int state) {
        same(x.reset(48), model.reset(48));
        int signs = state == 2 ? 30 : 60;
        for (int i = 0; i < signs; i++) {
            int column = i % 6;
            int begin = i / 6 * 4 + column % 2;
            if (i % 5 == 4) {
                same(x.addHold(column, begin), model.addHold(column, begin));
            } else {
                same(x.addMove(column, begin, 2, i % 9, i % 3),
                        model.addMove(column, begin, 2, i % 9, i % 3));
            }
        }
        for (int i = 0; state == 4 && i < 120; i++) {
            same(x.type("0k;".charAt(i % 3)), model.type("0k;".charAt(i % 3)));
        }
    }

    private void same(int got, int due) {
        calls++;
        Due.is("making the state", got, due);
    }
}
