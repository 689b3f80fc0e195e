import java.lang.reflect.Method;
import java.util.ArrayList;
import java.util.Arrays;
import java.util.List;

/**
 * The program side by side with the plain model, for at most 512 calls. Every other call is a count, and the last ones
 * are all of them. With the first answer that is not due the run is over.
 */
final class Twins {
    private static final int MOST_CALLS = 512;
    private static final int COUNTS = 20;
    private static final int SHOWN = 12;
    private final EarPaper program = new EarPaper();
    private final List<String> told = new ArrayList<>();
    private int calls;
    private boolean over;
    /** What a test asks of it to go on counts for no call. */
    final PlainPaper model = new PlainPaper();

    boolean isOver() {
        return over || calls >= MOST_CALLS - COUNTS;
    }

    void call(String name, Object... args) throws Exception {
        if (!isOver()) {
            ask(name, args);
            ask("count", calls / 2 % COUNTS);
        }
    }

    void end(String run) throws Exception {
        for (int what = 0; what < COUNTS && !over; what++) {
            ask("count", what);
        }
        if (over) {
            System.out.println(run + " ends: " + told.subList(Math.max(0, told.size() - SHOWN), told.size()));
        }
    }

    private void ask(String name, Object... args) throws Exception {
        if (over || calls >= MOST_CALLS) {
            return;
        }
        calls++;
        long got = answer(program, name, args);
        long due = answer(model, name, args);
        told.add(name + Arrays.toString(args) + " " + got + (got == due ? "" : ", due is " + due));
        over = got != due;
        Due.holds(told.get(told.size() - 1), !over);
    }

    private static long answer(Object on, String name, Object[] args) throws Exception {
        for (Method method : on.getClass().getDeclaredMethods()) {
            if (method.getName().equals(name) && method.getParameterCount() == args.length) {
                return ((Number) method.invoke(on, args)).longValue();
            }
        }
        throw new IllegalStateException(name);
    }
}
