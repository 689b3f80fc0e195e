import java.util.Random;

/** Random runs like those of ModelTest, of what asks for the fewest: breaks, boosts and hours of corrections. */
public final class SearchTest {
    private static final int RUNS = 200;
    private static final int MOST_NODES = 13;
    private final Random random;
    private final Twins twins = new Twins();
    private final int[] hangsOn = new int[MOST_NODES + 1];
    private final int[] homeAt = new int[8];
    private int nodes;
    private int homes;

    private SearchTest(long seed) {
        random = new Random(seed);
    }

    public static void main(String[] args) throws Exception {
        for (int run = 0; run < RUNS; run++) {
            new SearchTest(run).run(run);
        }
        Due.end();
    }

    private void run(int run) throws Exception {
        build();
        while (!twins.isOver()) {
            switch (run % 3) {
                case 0 -> breaks();
                case 1 -> boosts();
                default -> rights();
            }
        }
        twins.end("run " + run);
    }

    private void build() throws Exception {
        nodes = 1 + random.nextInt(MOST_NODES);
        for (int node = 1; node <= nodes; node++) {
            hangsOn[node] = random.nextInt(3) == 0 ? random.nextInt(node) : node - 1;
            twins.call("node", hangsOn[node], 1 + random.nextInt(9));
        }
        homes = 1 + random.nextInt(homeAt.length);
        for (int home = 0; home < homes; home++) {
            homeAt[home] = random.nextInt(nodes + 1);
            twins.call("home", homeAt[home], 1 + random.nextInt(2), hours() | hours(), hours() | 3);
        }
        twins.call("reader", 300);
    }

    private int hours() {
        return random.nextInt(4096) & random.nextInt() & random.nextInt();
    }

    /** Homes complain as some broken wires would have it, at times but for one of them. */
    private void breaks() throws Exception {
        int broken = random.nextInt(1 << nodes + 1) & random.nextInt() & random.nextInt();
        for (int home = 0; home < homes; home++) {
            boolean silent = random.nextInt(20) == 0;
            for (int node = homeAt[home]; node > 0; node = hangsOn[node]) {
                silent |= (broken >> node & 1) == 1;
            }
            twins.call("complain", home, silent);
        }
        for (int what = 0; what < 3; what++) {
            twins.call("breaks", what);
        }
    }

    private void boosts() throws Exception {
        twins.call("could", random.nextInt(nodes + 1), 1 + random.nextInt(40));
        twins.call("weather", random.nextInt(21));
        twins.call("boost", random.nextInt(nodes + 1), random.nextInt(9));
        twins.call("least", 1 + random.nextInt(20));
        for (int turn = 0; turn < 6; turn++) {
            twins.call("boosts", 1 + random.nextInt(random.nextBoolean() ? 40 : 160));
        }
    }

    private void rights() throws Exception {
        int now = twins.model.count(0);
        twins.call("feed", 3, (long) ('m' | '-' << 8 | '0' + random.nextInt(3) << 16));
        twins.call("term", 2, now + random.nextInt(3));
        twins.call("say", random.nextBoolean() ? 2 : 4, 0, 0);
        twins.call("pass", 1 + random.nextInt(60));
        for (int turn = 0; turn < 4; turn++) {
            int minute = random.nextInt(3) == 0 ? random.nextInt(now + 1) : now;
            int hours = random.nextInt(3) == 0 ? hours() : 4095;
            twins.call("rights", minute, hours, 1 + random.nextInt(300));
            twins.call("covers", minute, hours(), 1 + random.nextInt(300));
        }
    }
}
