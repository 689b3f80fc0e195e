import java.util.function.Consumer;

/** Edges of the homes in terms I and II, and of promises 8 to 10, 16 and 17. */
final class HomeEdges {
    private static final int ALL = 16777215;
    private static final Consumer<EarPaper> FULL = x -> {
        for (int i = 0; i < 40; i++) {
            x.home(0, 1, 1, 0);
        }
    };

    private HomeEdges() {
    }

    static void all() {
        terms();
        Edge.of(8, "A HOME: its number.", HomeEdges::home);
        Edge.of(8, "-1; -4; -6 (HABITS 0 .. 16777215; 40, too).", HomeEdges::homeRefused);
        Edge.of(9, "LEAST: what it was.", HomeEdges::least);
        Edge.of(9, "-4; -6.", HomeEdges::leastRefused);
        Edge.of(10, "Whether it HEARS a VOICE now: 1, 0.", HomeEdges::hears);
        Edge.of(10, "-1; -4; -6.", HomeEdges::hearsRefused);
        Edge.of(16, "Of a MINUTE that went by: 0 KIND, 1 READER (-9), 2 VOICE (0 DEAD), 3 the earlier MINUTE, or the "
            + "NEWS (-9), 4 SURE, 5 MOST, 6 WEATHER.", HomeEdges::minuteOf);
        Edge.of(16, "-1; -2.", HomeEdges::minuteOfRefused);
        Edge.of(17, "How a HOME heard it: 2 SURELY, 1 maybe, 0.", HomeEdges::heard);
        Edge.of(17, "-1.", HomeEdges::heardRefused);
    }

    private static void terms() {
        int at = Document.TERMS;
        Edge.of(at, "HOMES have numbers from 0 on (40 at most):", HomeEdges::numbers);
        Edge.of(at, "at a NODE, EARS (1 .. 9),", HomeEdges::ears);
        Edge.of(at, "HABITS: HOURS (bits 0 .. 23) in which it listens SURELY, others in which it MAY", HomeEdges::habits);
        Edge.of(at, "(those that are in both: surely).", HomeEdges::both);
        Edge.of(at, "It HEARS if LOUD at its NODE by EARS, cut, is LEAST or more (1 .. 99; 10 at first).",
            HomeEdges::leasts);
        Edge.of(at, "In an ALARM all HOMES listen SURELY.", HomeEdges::alarm);
        Edge.of(at, "WHO: of HOMES that HEAR a MINUTE (not DEAD) those who listen SURELY then; those who MAY as well: "
            + "from SURE to MOST of them.", HomeEdges::who);
        Edge.of(at, "(LOUD, WEATHER, CUTS as they were as it went by;", HomeEdges::asTheyWere);
        Edge.of(at, "BOOSTS, EARS, HABITS, LEAST as they are now.)", HomeEdges::asTheyAre);
    }

    // ---- terms I and II ----

    private static void numbers() {
        EarPaper x = new EarPaper();
        for (int i = 0; i < 40; i++) {
            Edge.is(x.home(0, 1, 1, 0), i);
        }
        Edge.is(x.home(0, 1, 1, 0), -6);
        x.stage(10);
        Edge.is(x.heard(0, 39), 2);
        Edge.is(x.heard(0, 40), -1);
        Edge.is(x.minuteOf(0, 4), 40);
        Edge.is(x.minuteOf(0, 5), 40);
    }

    private static void ears() {
        EarPaper x = new EarPaper();
        Edge.is(x.home(0, 1, 0, 0), 0);
        Edge.is(x.home(0, 9, 0, 0), 1);
        Edge.is(x.home(0, 0, 0, 0), -4);
        Edge.is(x.home(0, 10, 0, 0), -6);
        Edge.is(x.hears(0, 10), 1);
        Edge.is(x.hears(1, 89), 0);
        Edge.is(x.hears(1, 90), 1);
    }

    private static void habits() {
        EarPaper x = new EarPaper();
        x.home(0, 1, 1, 1 << 23);
        x.home(0, 1, 1 << 23, 1);
        x.home(0, 1, ALL, 0);
        x.home(0, 1, 0, ALL);
        x.home(0, 1, 0, 0);
        int[] minutes = {59, 60, 1379, 1380, 1439, 1440, 1499, 1500};
        int[] first = {2, 0, 0, 1, 1, 2, 2, 0};
        int[] second = {1, 0, 0, 2, 2, 1, 1, 0};
        for (int i = 0; i < minutes.length; i++) {
            if (x.count(0) < minutes[i]) {
                x.pass(minutes[i] - x.count(0));
            }
            Edge.is(x.stage(10), minutes[i]);
            int[] due = {first[i], second[i], 2, 1, 0};
            for (int home = 0; home < due.length; home++) {
                Edge.is(x.heard(minutes[i], home), due[home]);
            }
        }
    }

    private static void both() {
        EarPaper x = new EarPaper();
        x.home(0, 1, 1, 1);
        x.stage(10);
        Edge.is(x.heard(0, 0), 2);
        Edge.is(x.minuteOf(0, 4), 1);
        Edge.is(x.minuteOf(0, 5), 1);
    }

    private static void leasts() {
        EarPaper x = new EarPaper();
        x.home(0, 2, 0, 0);
        Edge.is(x.hears(0, 19), 0);
        Edge.is(x.hears(0, 20), 1);
        Edge.is(x.least(1), 10);
        Edge.is(x.hears(0, 1), 0);
        Edge.is(x.hears(0, 2), 1);
        Edge.is(x.least(99), 1);
        Edge.is(x.hears(0, 197), 0);
        Edge.is(x.hears(0, 198), 1);
        Edge.is(x.hears(0, 199), 1);
        Edge.is(x.least(0), -4);
        Edge.is(x.least(100), -6);
        Edge.is(x.least(10), 99);
    }

    private static void alarm() {
        EarPaper x = new EarPaper();
        x.reader(10);
        x.home(0, 1, 0, 0);
        x.home(0, 1, 0, 1);
        x.home(0, 2, 1, 1);
        x.say(2, 0, 0);
        x.say(4, 0, 0);
        int[][] due = {{2, 2, 0}, {0, 1, 0}};
        for (int minute = 0; minute < 2; minute++) {
            for (int home = 0; home < 3; home++) {
                Edge.is(x.heard(minute, home), due[minute][home]);
            }
        }
        Edge.is(x.minuteOf(0, 4), 2);
        Edge.is(x.minuteOf(0, 5), 2);
    }

    private static void who() {
        EarPaper x = new EarPaper();
        x.stage(99);
        Edge.is(x.minuteOf(0, 4), 0);
        Edge.is(x.minuteOf(0, 5), 0);
        x.home(0, 1, 1, 0);
        x.home(0, 1, 0, 1);
        x.home(0, 1, 0, 1);
        x.home(0, 1, 2, 2);
        x.home(0, 9, 1, 1);
        Edge.is(x.minuteOf(0, 4), 2);
        Edge.is(x.minuteOf(0, 5), 4);
        x.stage(89);
        Edge.is(x.minuteOf(1, 4), 1);
        Edge.is(x.minuteOf(1, 5), 3);
        x.stage(9);
        Edge.is(x.minuteOf(2, 5), 0);
        x.pass(1);
        Edge.is(x.minuteOf(3, 4), 0);
        Edge.is(x.minuteOf(3, 5), 0);
    }

    private static void asTheyWere() {
        EarPaper x = new EarPaper();
        x.node(0, 10);
        x.home(1, 1, 1, 0);
        x.weather(1);
        x.stage(20);
        x.stage(21);
        x.weather(0);
        x.stage(20);
        x.cut(1, 3, 3);
        x.stage(20);
        x.stage(20);
        x.weather(20);
        x.cut(1, 5, 9999);
        int[] due = {0, 2, 2, 0, 2};
        for (int minute = 0; minute < due.length; minute++) {
            Edge.is(x.heard(minute, 0), due[minute]);
        }
    }

    private static void asTheyAre() {
        EarPaper x = new EarPaper();
        x.node(0, 10);
        x.home(1, 1, 1, 0);
        x.stage(19);
        Edge.is(x.heard(0, 0), 0);
        x.boost(1, 1);
        Edge.is(x.heard(0, 0), 2);
        x.least(11);
        Edge.is(x.heard(0, 0), 0);
        x.least(9);
        Edge.is(x.heard(0, 0), 2);
        x.home(1, 2, 1, 0);
        x.home(0, 2, 0, 1);
        Edge.is(x.heard(0, 1), 0);
        Edge.is(x.heard(0, 2), 1);
        Edge.is(x.minuteOf(0, 4), 1);
        Edge.is(x.minuteOf(0, 5), 2);
    }

    // ---- promises 8 to 10 ----

    private static void home() {
        EarPaper x = new EarPaper();
        x.node(0, 99);
        Edge.is(x.home(0, 1, 0, 0), 0);
        Edge.is(x.home(1, 9, ALL, ALL), 1);
        Edge.is(x.home(0, 1, 0, ALL), 2);
        Edge.is(x.count(2), 3);
    }

    private static void homeRefused() {
        Refused.with(-1, Scene.DAY, x -> x.home(4, 1, 0, 0));
        Refused.with(-1, Scene.DAY, x -> x.home(-1, 0, 0, 0));
        Refused.with(-1, Scene.DAY, x -> x.home(4, 10, 0, 0));
        Refused.with(-4, Scene.DAY, x -> x.home(0, 0, 0, 0));
        Refused.with(-4, Scene.DAY, x -> x.home(0, 1, -1, 0));
        Refused.with(-4, Scene.DAY, x -> x.home(0, 1, 0, -1));
        Refused.with(-4, Scene.DAY, x -> x.home(0, 10, 0, Integer.MIN_VALUE));
        Refused.with(-4, Scene.DAY, x -> x.home(0, 0, ALL + 1, 0));
        Refused.with(-6, Scene.DAY, x -> x.home(0, 10, 0, 0));
        Refused.with(-6, Scene.DAY, x -> x.home(0, 1, ALL + 1, 0));
        Refused.with(-6, Scene.DAY, x -> x.home(0, 1, 0, ALL + 1));
        Refused.with(-6, Scene.DAY, x -> x.home(0, 1, Integer.MAX_VALUE, 0));
        Refused.with(-6, FULL, x -> x.home(0, 1, 0, 0));
        Refused.with(-1, FULL, x -> x.home(1, 1, 0, 0));
        Refused.with(-4, FULL, x -> x.home(0, 0, 0, 0));
    }

    private static void least() {
        EarPaper x = new EarPaper();
        Edge.is(x.least(1), 10);
        Edge.is(x.least(99), 1);
        Edge.is(x.least(50), 99);
        Edge.is(x.least(50), 50);
    }

    private static void leastRefused() {
        Refused.with(-4, Scene.DAY, x -> x.least(0));
        Refused.with(-4, Scene.DAY, x -> x.least(Integer.MIN_VALUE));
        Refused.with(-6, Scene.DAY, x -> x.least(100));
        Refused.with(-6, Scene.DAY, x -> x.least(Integer.MAX_VALUE));
    }

    private static void hears() {
        EarPaper x = new EarPaper();
        x.node(0, 10);
        x.home(1, 3, 0, 0);
        Edge.is(x.hears(0, 39), 0);
        Edge.is(x.hears(0, 40), 1);
        Edge.is(x.hears(0, 999), 1);
        Edge.is(x.hears(0, 1), 0);
        x.cut(1, 0, 0);
        Edge.is(x.hears(0, 999), 0);
        x.pass(1);
        Edge.is(x.hears(0, 40), 1);
    }

    private static void hearsRefused() {
        Refused.with(-1, Scene.BARE, x -> x.hears(0, 50));
        Refused.with(-1, Scene.DAY, x -> x.hears(4, 50));
        Refused.with(-1, Scene.DAY, x -> x.hears(-1, 0));
        Refused.with(-1, Scene.DAY, x -> x.hears(4, 1000));
        Refused.with(-4, Scene.DAY, x -> x.hears(0, 0));
        Refused.with(-4, Scene.DAY, x -> x.hears(3, Integer.MIN_VALUE));
        Refused.with(-6, Scene.DAY, x -> x.hears(0, 1000));
        Refused.with(-6, Scene.DAY, x -> x.hears(3, Integer.MAX_VALUE));
    }

    // ---- promises 16 and 17 ----

    private static void minuteOf() {
        EarPaper x = new EarPaper();
        Scene.DAY.accept(x);
        int[][] due = {
            {0, 0, 60, 0, 2, 4, 0},
            {0, 1, 200, 1, 2, 4, 2},
            {3, -9, 70, -9, 2, 4, 2},
            {2, 1, 200, -9, 4, 4, 2},
            {5, 1, 200, 0, 2, 4, 2},
            {4, 0, 60, -9, 2, 4, 2},
            {1, 0, 60, 2, 2, 4, 2},
            {6, -9, 0, -9, 0, 0, 2},
        };
        for (int minute = 0; minute < due.length; minute++) {
            for (int what = 0; what < 7; what++) {
                Edge.is(x.minuteOf(minute, what), due[minute][what]);
            }
        }
        Edge.is(x.minuteOf(9, 3), -9);
        Edge.is(x.minuteOf(10, 3), 2);
        Edge.is(x.minuteOf(11, 0), 4);
    }

    private static void minuteOfRefused() {
        Refused.with(-1, Scene.BARE, x -> x.minuteOf(0, 0));
        Refused.with(-1, Scene.DAY, x -> x.minuteOf(12, 0));
        Refused.with(-1, Scene.DAY, x -> x.minuteOf(-1, 0));
        Refused.with(-1, Scene.DAY, x -> x.minuteOf(12, 7));
        Refused.with(-1, Scene.END, x -> x.minuteOf(9999, 0));
        Refused.with(-2, Scene.DAY, x -> x.minuteOf(11, 7));
        Refused.with(-2, Scene.DAY, x -> x.minuteOf(0, -1));
        Refused.with(-2, Scene.DAY, x -> x.minuteOf(0, Integer.MAX_VALUE));
        Refused.with(-2, Scene.DAY, x -> x.minuteOf(0, Integer.MIN_VALUE));
    }

    private static void heard() {
        EarPaper x = new EarPaper();
        x.home(0, 1, 1, 0);
        x.home(0, 1, 0, 1);
        x.home(0, 1, 0, 2);
        x.home(0, 2, 1, 0);
        x.stage(19);
        x.pass(1);
        int[][] due = {{2, 1, 0, 0}, {0, 0, 0, 0}};
        for (int minute = 0; minute < 2; minute++) {
            for (int home = 0; home < 4; home++) {
                Edge.is(x.heard(minute, home), due[minute][home]);
            }
        }
    }

    private static void heardRefused() {
        Refused.with(-1, Scene.BARE, x -> x.heard(0, 0));
        Refused.with(-1, Scene.DAY, x -> x.heard(12, 0));
        Refused.with(-1, Scene.DAY, x -> x.heard(-1, 0));
        Refused.with(-1, Scene.DAY, x -> x.heard(0, 4));
        Refused.with(-1, Scene.DAY, x -> x.heard(0, -1));
        Refused.with(-1, Scene.DAY, x -> x.heard(Integer.MAX_VALUE, Integer.MIN_VALUE));
    }
}
