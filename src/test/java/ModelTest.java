import java.lang.reflect.Method;
import java.util.ArrayList;
import java.util.List;
import java.util.Random;

/** Random runs of 512 calls, the program side by side with the plain model; the seeds are fixed. */
public final class ModelTest {
    private static final int RUNS = 400;
    private static final int[] EDGES = {Integer.MIN_VALUE, -32769, -32768, -2, -1, 0, 1, 2, 5, 8, 9, 10, 20, 21, 40,
        60, 99, 100, 240, 241, 555, 998, 999, 1000, 9998, 9999, 10000, 32767, 32768, 16777215, 16777216,
        Integer.MAX_VALUE};
    private static final String SIGNS = "khvsmwan0123456789+-*/()<=>";
    private final Random random;
    private final EarPaper program = new EarPaper();
    private final PlainPaper model = new PlainPaper();
    private final List<String> told = new ArrayList<>();
    private int calls;

    private ModelTest(long seed) {
        random = new Random(seed);
    }

    public static void main(String[] args) throws Exception {
        int runs = args.length > 0 ? Integer.parseInt(args[0]) : RUNS;
        for (int run = 0; run < runs; run++) {
            new ModelTest(run).run(run);
        }
        Due.end();
    }

    private void run(int run) throws Exception {
        boolean built = run % 4 != 0;
        if (built) {
            build();
        }
        while (calls < 512) {
            boolean right = random.nextInt(12) == 0 ? text() : one();
            if (!right) {
                System.out.println("run " + run + " ends: " + told.subList(Math.max(0, told.size() - 12), told.size()));
                return;
            }
        }
    }

    private void build() throws Exception {
        int nodes = random.nextInt(19);
        for (int i = 0; i < nodes; i++) {
            call("node", random.nextInt(i + 1), 1 + random.nextInt(30));
        }
        int homes = random.nextInt(random.nextBoolean() ? 12 : 40);
        for (int i = 0; i < homes; i++) {
            call("home", random.nextInt(nodes + 1), 1 + random.nextInt(3), random.nextInt(16777216) & random.nextInt(),
                random.nextInt(16777216));
        }
        for (int i = 0; i < 4; i++) {
            call("reader", 40 + random.nextInt(300));
        }
    }

    private boolean text() throws Exception {
        String text = random.nextInt(3) == 0 ? junk() : sum(3);
        for (int from = 0; from < text.length() && from < 60; from += 8) {
            int n = Math.min(8, text.length() - from);
            long bytes = random.nextLong();
            for (int i = n - 1; i >= 0; i--) {
                bytes = bytes << 8 | text.charAt(from + i);
            }
            if (!call("feed", n, bytes)) {
                return false;
            }
        }
        return call("term", random.nextInt(4), program.count(0) + random.nextInt(20));
    }

    private String junk() {
        StringBuilder text = new StringBuilder(sum(4));
        for (int i = random.nextInt(3); i >= 0; i--) {
            char sign = random.nextInt(9) == 0 ? (char) random.nextInt(256) : SIGNS.charAt(random.nextInt(SIGNS.length()));
            text.insert(random.nextInt(text.length() + 1), sign);
        }
        return text.toString();
    }

    private String sum(int depth) {
        StringBuilder text = new StringBuilder(unit(depth));
        for (int i = random.nextInt(3); i > 0; i--) {
            text.append("+-*/".charAt(random.nextInt(4))).append(unit(depth));
        }
        return text.toString();
    }

    private String unit(int depth) {
        int way = random.nextInt(depth > 0 ? 6 : 4);
        if (way < 2) {
            return "" + SIGNS.charAt(random.nextInt(8));
        }
        if (way < 4) {
            return "" + random.nextInt(random.nextBoolean() ? 10 : 100000);
        }
        return "(" + sum(depth - 1) + (way == 5 ? "<=>".charAt(random.nextInt(3)) + sum(depth - 1) : "") + ")";
    }

    private int any(int... usual) {
        return random.nextInt(14) == 0 ? EDGES[random.nextInt(EDGES.length)] : usual[random.nextInt(usual.length)];
    }

    private int below(int bound) {
        return any(random.nextInt(Math.max(1, bound)));
    }

    private int minute() {
        int now = program.count(0);
        return any(now - 1 - random.nextInt(10), random.nextInt(now + 1), now - 1);
    }

    private int later() {
        return any(program.count(0) + random.nextInt(30));
    }

    private int aNode() {
        return below(program.count(1));
    }

    private int aHome() {
        return below(program.count(2));
    }

    private int voice() {
        return any(1 + random.nextInt(999), 1 + random.nextInt(120));
    }

    private int hours() {
        return any(random.nextInt(16777216) & random.nextInt() & random.nextInt(), random.nextInt(16777216) & random.nextInt(),
            random.nextInt(4096));
    }

    private boolean one() throws Exception {
        switch (random.nextInt(40)) {
            case 0: return call("pass", any(1, 2, 7, 50, random.nextInt(20) == 0 ? 3000 : 3));
            case 1: return call("node", aNode(), any(1 + random.nextInt(30)));
            case 2: return call("boost", aNode(), any(random.nextInt(100)));
            case 3: return call("weather", any(random.nextInt(21)));
            case 4: {
                int from = later();
                return call("cut", aNode(), from, random.nextInt(9) == 0 ? later() : from + random.nextInt(9));
            }
            case 5: return call("loud", aNode(), voice());
            case 6: return call("home", aNode(), any(1 + random.nextInt(9)), hours(), hours());
            case 7: return call("least", any(1 + random.nextInt(30), 10));
            case 8: return call("hears", aHome(), voice());
            case 9: return call("reader", voice());
            case 10: return call("rests", any(1 + random.nextInt(5), 240), any(random.nextInt(6)));
            case 11: return call("mayRead", below(program.count(3)));
            case 12:
            case 13:
            case 14:
            case 15:
            case 16: {
                int kind = any(0, 1, 2, 4, 5, 0, 3);
                int of = kind == 0 ? random.nextBoolean() ? -1 : below(program.count(6)) : minute();
                return call("say", kind, below(program.count(3)), of);
            }
            case 17: return call("stage", voice());
            case 18: return call("minuteOf", minute(), below(7));
            case 19: return call("heard", minute(), aHome());
            case 20: return call("feed", any(1 + random.nextInt(8)), random.nextLong());
            case 21: return call("term", below(4), later());
            case 22: return call("worth", below(3), minute());
            case 23: {
                int a = minute();
                return call("account", a, random.nextInt(5) == 0 ? minute() : a + random.nextInt(40));
            }
            case 24:
            case 25: return call("complain", aHome(), random.nextBoolean());
            case 26: return call("breaks", below(3));
            case 27: return call("could", aNode(), any(1 + random.nextInt(60)));
            case 28: return call("boosts", voice());
            case 29: return call("covers", minute(), hours(), voice());
            case 30: return call("rights", minute(), hours(), voice());
            case 31: return call("news", random.nextBoolean());
            case 32: return call("printed", below(program.count(6)), later());
            case 33: return call("lag", minute());
            case 34: return call("fresh", minute());
            case 35: return call("advert", below(10));
            case 36: return call("sold", below(1 + program.count(7) / 5), below(5));
            case 37: return call("put", any(random.nextInt(7), random.nextInt(10), random.nextInt(65536) - 32768));
            case 38: return random.nextInt(4) == 0 ? log() : call(random.nextBoolean() ? "judge" : "count", what());
            default: return call("order", below(10), below(10), below(10), any(random.nextInt(556), 221, 311, 122, 320));
        }
    }

    private Object[] what() {
        return new Object[] {below(19)};
    }

    /** A log that is right up to its last number, or beyond. */
    private boolean log() throws Exception {
        int from = minute();
        for (int i = random.nextInt(5); i >= 0; i--) {
            int kind = program.minuteOf(from, 0);
            model.minuteOf(from, 0);
            if (!call("put", kind < 0 ? 3 : kind)) {
                return false;
            }
        }
        return call("check", from);
    }

    private boolean call(String name, Object... given) throws Exception {
        Object[] args = name.equals("judge") ? new Object[0] : given;
        calls++;
        long got = answer(program, EarPaper.class, name, args);
        long due = answer(model, PlainPaper.class, name, args);
        told.add(name + java.util.Arrays.toString(args) + " " + got + (got == due ? "" : ", due is " + due));
        boolean right = got == due;
        for (int what = 0; what < 20; what++) {
            right &= program.count(what) == model.count(what);
        }
        Due.holds(told.get(told.size() - 1), right);
        return right;
    }

    private static long answer(Object on, Class<?> kind, String name, Object[] args) throws Exception {
        for (Method method : kind.getDeclaredMethods()) {
            if (method.getName().equals(name) && method.getParameterCount() == args.length) {
                return ((Number) method.invoke(on, args)).longValue();
            }
        }
        throw new IllegalStateException(name);
    }
}
