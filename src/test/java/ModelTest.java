import java.util.Random;

/** Random runs of calls, the program side by side with the plain model; the seeds are fixed. */
public final class ModelTest {
    private static final int RUNS = 800;
    private static final int[] EDGES = {Integer.MIN_VALUE, -32769, -32768, -2, -1, 0, 1, 2, 5, 8, 9, 10, 20, 21, 40,
        60, 99, 100, 240, 241, 555, 998, 999, 1000, 9998, 9999, 10000, 32767, 32768, 16777215, 16777216,
        Integer.MAX_VALUE};
    private static final String SIGNS = "khvsmwan0123456789+-*/()<=>";
    private final Random random;
    private final Twins twins = new Twins();
    private final PlainPaper model = twins.model;

    private ModelTest(long seed) {
        random = new Random(seed);
    }

    public static void main(String[] args) throws Exception {
        int runs = args.length > 0 ? Integer.parseInt(args[0]) : RUNS;
        for (int run = 0; run < runs; run++) {
            new ModelTest(run).run(run);
        }
        Due.end();
    }

    private void run(int run) throws Exception {
        if (run % 4 != 0) {
            build();
        }
        while (!twins.isOver()) {
            if (random.nextInt(12) == 0) {
                text();
            } else {
                one();
            }
        }
        twins.end("run " + run);
    }

    private void build() throws Exception {
        int nodes = random.nextInt(19);
        for (int i = 0; i < nodes; i++) {
            call("node", random.nextInt(i + 1), 1 + random.nextInt(30));
        }
        int homes = random.nextInt(random.nextBoolean() ? 12 : 40);
        for (int i = 0; i < homes; i++) {
            call("home", random.nextInt(nodes + 1), 1 + random.nextInt(3), random.nextInt(16777216) & random.nextInt(),
                random.nextInt(16777216));
        }
        for (int i = 0; i < 4; i++) {
            call("reader", 40 + random.nextInt(300));
        }
    }

    private void text() throws Exception {
        String text = random.nextInt(3) == 0 ? junk() : sum(3);
        for (int from = 0; from < text.length() && from < 60; from += 8) {
            int n = Math.min(8, text.length() - from);
            long bytes = random.nextLong();
            for (int i = n - 1; i >= 0; i--) {
                bytes = bytes << 8 | text.charAt(from + i);
            }
            call("feed", n, bytes);
        }
        call("term", random.nextInt(4), model.count(0) + random.nextInt(20));
    }

    private String junk() {
        StringBuilder text = new StringBuilder(sum(4));
        for (int i = random.nextInt(3); i >= 0; i--) {
            char sign = random.nextInt(9) == 0 ? (char) random.nextInt(256) : SIGNS.charAt(random.nextInt(SIGNS.length()));
            text.insert(random.nextInt(text.length() + 1), sign);
        }
        return text.toString();
    }

    private String sum(int depth) {
        StringBuilder text = new StringBuilder(unit(depth));
        for (int i = random.nextInt(3); i > 0; i--) {
            text.append("+-*/".charAt(random.nextInt(4))).append(unit(depth));
        }
        return text.toString();
    }

    private String unit(int depth) {
        int way = random.nextInt(depth > 0 ? 6 : 4);
        if (way < 2) {
            return "" + SIGNS.charAt(random.nextInt(8));
        }
        if (way < 4) {
            return "" + random.nextInt(random.nextBoolean() ? 10 : 100000);
        }
        return "(" + sum(depth - 1) + (way == 5 ? "<=>".charAt(random.nextInt(3)) + sum(depth - 1) : "") + ")";
    }

    private int any(int... usual) {
        return random.nextInt(14) == 0 ? EDGES[random.nextInt(EDGES.length)] : usual[random.nextInt(usual.length)];
    }

    private int below(int bound) {
        return any(random.nextInt(Math.max(1, bound)));
    }

    private int minute() {
        int now = model.count(0);
        return any(now - 1 - random.nextInt(10), random.nextInt(now + 1), now - 1);
    }

    private int later() {
        return any(model.count(0) + random.nextInt(30));
    }

    private int aNode() {
        return below(model.count(1));
    }

    private int aHome() {
        return below(model.count(2));
    }

    private int voice() {
        return any(1 + random.nextInt(999), 1 + random.nextInt(120));
    }

    private int hours() {
        return any(random.nextInt(16777216) & random.nextInt() & random.nextInt(), random.nextInt(16777216) & random.nextInt(),
            random.nextInt(4096));
    }

    private void one() throws Exception {
        switch (random.nextInt(5)) {
            case 0 -> net();
            case 1 -> say();
            case 2 -> ask();
            case 3 -> search();
            default -> news();
        }
    }

    private void net() throws Exception {
        switch (random.nextInt(9)) {
            case 0 -> call("node", aNode(), any(1 + random.nextInt(30)));
            case 1 -> call("boost", aNode(), any(random.nextInt(100)));
            case 2 -> call("weather", any(random.nextInt(21)));
            case 3 -> {
                int from = later();
                call("cut", aNode(), from, random.nextInt(9) == 0 ? later() : from + random.nextInt(9));
            }
            case 4 -> call("loud", aNode(), voice());
            case 5 -> call("home", aNode(), any(1 + random.nextInt(9)), hours(), hours());
            case 6 -> call("least", any(1 + random.nextInt(30), 10));
            case 7 -> call("hears", aHome(), voice());
            default -> call("reader", voice());
        }
    }

    private void say() throws Exception {
        switch (random.nextInt(8)) {
            case 0 -> call("pass", any(1, 2, 7, 50, random.nextInt(20) == 0 ? 3000 : 3));
            case 1 -> call("rests", any(1 + random.nextInt(5), 240), any(random.nextInt(6)));
            case 2 -> call("stage", voice());
            default -> {
                int kind = any(0, 1, 2, 4, 5, 0, 3);
                int of = kind != 0 ? minute() : random.nextBoolean() ? -1 : below(model.count(6));
                call("say", kind, below(model.count(3)), of);
            }
        }
    }

    private void ask() throws Exception {
        switch (random.nextInt(7)) {
            case 0 -> call("mayRead", below(model.count(3)));
            case 1 -> call("minuteOf", minute(), below(7));
            case 2 -> call("heard", minute(), aHome());
            case 3 -> call("feed", any(1 + random.nextInt(8)), random.nextLong());
            case 4 -> call("term", below(4), later());
            case 5 -> call("worth", below(3), minute());
            default -> {
                int a = minute();
                call("account", a, random.nextInt(5) == 0 ? minute() : a + random.nextInt(40));
            }
        }
    }

    private void search() throws Exception {
        switch (random.nextInt(7)) {
            case 0 -> call("breaks", below(3));
            case 1 -> call("could", aNode(), any(1 + random.nextInt(60)));
            case 2 -> call("boosts", voice());
            case 3 -> call("covers", minute(), hours(), voice());
            case 4 -> call("rights", minute(), hours(), voice());
            default -> call("complain", aHome(), random.nextBoolean());
        }
    }

    private void news() throws Exception {
        switch (random.nextInt(11)) {
            case 0 -> call("news", random.nextBoolean());
            case 1 -> call("printed", below(model.count(6)), later());
            case 2 -> call("lag", minute());
            case 3 -> call("fresh", minute());
            case 4 -> call("advert", below(10));
            case 5 -> call("sold", below(1 + model.count(7) / 5), below(5));
            case 6 -> call("put", any(random.nextInt(7), random.nextInt(10), random.nextInt(65536) - 32768));
            case 7 -> call("judge");
            case 8 -> call("count", below(19));
            case 9 -> log();
            default -> call("order", below(10), below(10), below(10), any(random.nextInt(556), 221, 311, 122, 320));
        }
    }

    /** A log that is right up to its last number, or beyond. */
    private void log() throws Exception {
        int from = minute();
        int now = model.count(0);
        int length = random.nextInt(6);
        for (int i = 0; i < length; i++) {
            int minute = from + i;
            call("put", minute >= 0 && minute < now ? model.minuteOf(minute, 0) : 3);
        }
        call("check", from);
    }

    private void call(String name, Object... args) throws Exception {
        twins.call(name, args);
    }
}
