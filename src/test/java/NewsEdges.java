import java.util.function.Consumer;

/** Edges of the news in terms V and of promises 28 to 31. */
final class NewsEdges {
    private static final Consumer<EarPaper> FULL = x -> {
        for (int i = 0; i < 40; i++) {
            x.news(i % 2 == 0);
        }
    };

    private NewsEdges() {
    }

    static void all() {
        terms();
        Edge.of(28, "NEWS that CAME: its number.", NewsEdges::news);
        Edge.of(28, "-6 40.", NewsEdges::newsRefused);
        Edge.of(29, "A rival PRINTED it: 1.", NewsEdges::printed);
        Edge.of(29, "-1; -3 told; -4 ahead of now; -6.", NewsEdges::printedRefused);
        Edge.of(30, "LAG of a READ MINUTE of NEWS; -9 it is of none.", NewsEdges::lag);
        Edge.of(30, "-1; -3 it is no READ one.", NewsEdges::lagRefused);
        Edge.of(31, "Whether it was FRESH: 1, 0.", NewsEdges::fresh);
        Edge.of(31, "Refused as lag(); -9.", NewsEdges::freshRefused);
    }

    private static void terms() {
        int at = Document.TERMS;
        Edge.of(at, "NEWS have numbers from 0 on (40 at most): CAME in now, SURE or as told;", NewsEdges::numbers);
        Edge.of(at, "a rival PRINTED it in a MINUTE (told, now or later; once).", NewsEdges::once);
        Edge.of(at, "A READ MINUTE may be of one that CAME in: LAG: MINUTES since it CAME;", NewsEdges::since);
        Edge.of(at, "FRESH: no other READ one was of it ahead,", NewsEdges::ahead);
        Edge.of(at, "and it was not PRINTED by then (in that same MINUTE neither).", NewsEdges::byThen);
    }

    private static EarPaper withReader() {
        EarPaper x = new EarPaper();
        x.reader(50);
        return x;
    }

    // ---- terms V ----

    private static void numbers() {
        EarPaper x = withReader();
        for (int i = 0; i < 40; i++) {
            Edge.is(x.news(i % 3 == 0), i);
        }
        Edge.is(x.news(true), -6);
        Edge.is(x.count(6), 40);
        Edge.is(x.say(0, 0, 39), 0);
        Edge.is(x.say(0, 0, 40), -1);
        Edge.is(x.say(0, 0, 0), 1);
        Edge.is(x.lag(0), 0);
        Edge.is(x.lag(1), 1);
    }

    private static void once() {
        EarPaper x = withReader();
        x.news(true);
        x.news(true);
        x.news(true);
        x.pass(3);
        Edge.is(x.printed(0, 2), -4);
        Edge.is(x.printed(0, 3), 1);
        Edge.is(x.printed(0, 3), -3);
        Edge.is(x.printed(1, 9999), 1);
        Edge.is(x.printed(1, 4), -3);
        Edge.is(x.printed(2, 10000), -6);
        Edge.is(x.printed(2, 4), 1);
        x.say(0, 0, 0);
        x.say(0, 0, 1);
        int[] due = {0, 1};
        for (int i = 0; i < due.length; i++) {
            Edge.is(x.fresh(3 + i), due[i]);
        }
    }

    private static void since() {
        EarPaper x = withReader();
        x.news(false);
        x.say(0, 0, 0);
        x.pass(7);
        x.news(true);
        x.say(0, 0, 0);
        x.say(0, 0, 1);
        x.say(0, 0, -1);
        Edge.is(x.lag(0), 0);
        Edge.is(x.lag(8), 8);
        Edge.is(x.lag(9), 1);
        Edge.is(x.lag(10), -9);
        x.pass(9987);
        x.say(0, 0, 0);
        Edge.is(x.lag(9998), 9998);
    }

    private static void ahead() {
        EarPaper x = withReader();
        x.news(true);
        x.news(true);
        x.say(0, 0, -1);
        x.say(0, 0, 0);
        x.say(1, 0, 1);
        x.say(0, 0, 1);
        x.say(0, 0, 0);
        x.say(0, 0, 1);
        x.say(0, 0, 0);
        int[] due = {-9, 1, -3, 1, 0, 0, 0};
        for (int minute = 0; minute < due.length; minute++) {
            Edge.is(x.fresh(minute), due[minute]);
        }
    }

    private static void byThen() {
        int[] due = {0, 0, 1, 1};
        int[] printedIn = {1, 2, 3, 9999};
        for (int i = 0; i < due.length; i++) {
            EarPaper x = withReader();
            x.news(true);
            x.pass(1);
            x.printed(0, printedIn[i]);
            x.pass(1);
            Edge.is(x.say(0, 0, 0), 2);
            Edge.is(x.fresh(2), due[i]);
            x.pass(5);
            Edge.is(x.fresh(2), due[i]);
        }
        EarPaper late = withReader();
        late.news(true);
        late.say(0, 0, 0);
        late.printed(0, 1);
        Edge.is(late.fresh(0), 1);
        EarPaper atOnce = withReader();
        atOnce.news(true);
        atOnce.printed(0, 0);
        atOnce.say(0, 0, 0);
        Edge.is(atOnce.fresh(0), 0);
    }

    // ---- promises 28 to 31 ----

    private static void news() {
        EarPaper x = new EarPaper();
        Edge.is(x.news(true), 0);
        x.pass(9999);
        Edge.is(x.news(false), 1);
        Edge.is(x.count(6), 2);
    }

    private static void newsRefused() {
        Refused.with(-6, FULL, x -> x.news(true));
        Refused.with(-6, FULL, x -> x.news(false));
        EarPaper x = new EarPaper();
        for (int i = 0; i < 39; i++) {
            x.news(false);
        }
        Edge.is(x.news(false), 39);
    }

    private static void printed() {
        EarPaper x = new EarPaper();
        x.news(true);
        x.news(true);
        Edge.is(x.printed(0, 0), 1);
        Edge.is(x.printed(1, 9999), 1);
        x.pass(9999);
        x.news(true);
        Edge.is(x.printed(2, 9999), 1);
    }

    private static void printedRefused() {
        Refused.with(-1, Scene.BARE, x -> x.printed(0, 0));
        Refused.with(-1, Scene.DAY, x -> x.printed(3, 12));
        Refused.with(-1, Scene.DAY, x -> x.printed(-1, 12));
        Refused.with(-1, Scene.DAY, x -> x.printed(3, 11));
        Refused.with(-1, Scene.DAY, x -> x.printed(3, 10000));
        Refused.with(-1, FULL, x -> x.printed(40, 0));
        Refused.with(-3, Scene.DAY, x -> x.printed(1, 12));
        Refused.with(-3, Scene.DAY, x -> x.printed(1, 2));
        Refused.with(-3, Scene.DAY, x -> x.printed(1, 10000));
        Refused.with(-3, Scene.BARE.andThen(x -> {
            x.news(true);
            x.printed(0, 0);
        }), x -> x.printed(0, 0));
        Refused.with(-4, Scene.DAY, x -> x.printed(0, 11));
        Refused.with(-4, Scene.DAY, x -> x.printed(0, -1));
        Refused.with(-4, Scene.DAY, x -> x.printed(2, Integer.MIN_VALUE));
        Refused.with(-4, Scene.END, x -> x.printed(2, 9998));
        Refused.with(-6, Scene.DAY, x -> x.printed(0, 10000));
        Refused.with(-6, Scene.DAY, x -> x.printed(2, Integer.MAX_VALUE));
    }

    private static void lag() {
        EarPaper x = new EarPaper();
        Scene.DAY.accept(x);
        Edge.is(x.lag(0), 0);
        Edge.is(x.lag(1), 1);
        Edge.is(x.lag(9), -9);
        Edge.is(x.lag(10), 10);
        for (int what = 11; what <= 16; what++) {
            Edge.is(x.count(what), 0);
        }
    }

    private static void lagRefused() {
        Refused.with(-1, Scene.BARE, x -> x.lag(0));
        Refused.with(-1, Scene.DAY, x -> x.lag(12));
        Refused.with(-1, Scene.DAY, x -> x.lag(-1));
        Refused.with(-1, Scene.END, x -> x.lag(9999));
        int[] others = {2, 3, 4, 5, 6, 7, 8, 11};
        for (int minute : others) {
            Refused.with(-3, Scene.DAY, x -> x.lag(minute));
        }
    }

    private static void fresh() {
        EarPaper x = new EarPaper();
        Scene.DAY.accept(x);
        Edge.is(x.fresh(0), 1);
        Edge.is(x.fresh(1), 1);
        Edge.is(x.fresh(9), -9);
        Edge.is(x.fresh(10), 1);
        x.pass(4);
        Edge.is(x.say(0, 0, 1), 16);
        Edge.is(x.fresh(16), 0);
        Edge.is(x.fresh(1), 1);
    }

    private static void freshRefused() {
        Refused.with(-1, Scene.BARE, x -> x.fresh(0));
        Refused.with(-1, Scene.DAY, x -> x.fresh(12));
        Refused.with(-1, Scene.DAY, x -> x.fresh(-1));
        Refused.with(-1, Scene.END, x -> x.fresh(9999));
        int[] others = {2, 3, 4, 5, 6, 7, 8, 11};
        for (int minute : others) {
            Refused.with(-3, Scene.DAY, x -> x.fresh(minute));
        }
        EarPaper x = withReader();
        x.say(0, 0, -1);
        Edge.is(x.fresh(0), -9);
        for (int what = 11; what <= 16; what++) {
            Edge.is(x.count(what), 0);
        }
    }
}
