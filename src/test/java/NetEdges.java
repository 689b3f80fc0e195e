import java.util.function.Consumer;

/** Edges of terms I without the homes, and of promises 1 to 7. */
final class NetEdges {
    private static final Consumer<EarPaper> FULL_NODES = x -> {
        for (int i = 1; i < 20; i++) {
            x.node(0, 1);
        }
    };
    private static final Consumer<EarPaper> FULL_CUTS = Scene.BARE.andThen(x -> {
        x.node(0, 1);
        for (int i = 0; i < 40; i++) {
            x.cut(1, 9, 9);
        }
    });

    private NetEdges() {
    }

    static void all() {
        terms();
        Edge.of(1, "MINUTE 0; the HOUSE.", NetEdges::newObject);
        Edge.of(2, "n MINUTES go by DEAD: MINUTE.", NetEdges::pass);
        Edge.of(2, "-4 below 1; -6 above 9999.", NetEdges::passRefused);
        Edge.of(3, "A NODE: its number.", NetEdges::node);
        Edge.of(3, "-1; -4; -6 (20, too).", NetEdges::nodeRefused);
        Edge.of(4, "BOOST: what it was.", NetEdges::boost);
        Edge.of(4, "-1; -4; -6.", NetEdges::boostRefused);
        Edge.of(5, "WEATHER from now on: what it was.", NetEdges::weather);
        Edge.of(5, "-4; -6.", NetEdges::weatherRefused);
        Edge.of(6, "A CUT: how many were told.", NetEdges::cut);
        Edge.of(6, "-1 (the HOUSE, too);", NetEdges::cutOfNobody);
        Edge.of(6, "-4 (from ahead of now, to ahead of from);", NetEdges::cutBelow);
        Edge.of(6, "-6 (above 9999, 40, too).", NetEdges::cutRoom);
        Edge.of(7, "LOUD now.", NetEdges::loud);
        Edge.of(7, "-1; -4; -6.", NetEdges::loudRefused);
    }

    private static void terms() {
        int at = Document.TERMS;
        Edge.of(at, "MINUTES go on from 0 (9999 at most);", NetEdges::minutes);
        Edge.of(at, "the HOUR of one: it by 60, modulo 24.", NetEdges::hours);
        Edge.of(at, "NODES have numbers from 0 on (20 at most):", NetEdges::nodeNumbers);
        Edge.of(at, "node 0, the HOUSE, is there at first;", NetEdges::house);
        Edge.of(at, "each other one hangs on an earlier one by a WIRE (1 .. 99 long).", NetEdges::wires);
        Edge.of(at, "BOOST of a NODE (0 .. 99; 0 at first).", NetEdges::boosts);
        Edge.of(at, "WEATHER (0 .. 20; 0 at first), as told from then on.", NetEdges::weathers);
        Edge.of(at, "CUTS (40 in all):", NetEdges::cuts);
        Edge.of(at, "the WIRE of a NODE is cut from a MINUTE to a MINUTE (told, now or later, both too).",
            NetEdges::cutMinutes);
        Edge.of(at, "LOUD at a NODE in a MINUTE for a VOICE (1 .. 999):", NetEdges::voices);
        Edge.of(at, "at the HOUSE the VOICE;", NetEdges::atTheHouse);
        Edge.of(at, "at another one LOUD where it hangs, less WIRE times (10 and the WEATHER of the MINUTE) by 10, cut;",
            NetEdges::wireLoss);
        Edge.of(at, "0 at least;", NetEdges::notBelowNought);
        Edge.of(at, "0 if its WIRE is cut then;", NetEdges::cutIsSilent);
        Edge.of(at, "if it is above 0, its BOOST more, 999 at most.", NetEdges::boosted);
    }

    // ---- terms I ----

    private static void minutes() {
        EarPaper x = new EarPaper();
        Edge.is(x.count(0), 0);
        Edge.is(x.stage(5), 0);
        Edge.is(x.pass(9997), 9998);
        Edge.is(x.stage(5), 9998);
        Edge.is(x.count(0), 9999);
        Edge.is(x.stage(5), -6);
        Edge.is(x.pass(1), -6);
        Edge.is(x.minuteOf(9998, 0), 3);
        Edge.is(x.minuteOf(9999, 0), -1);
    }

    private static void hours() {
        EarPaper x = new EarPaper();
        Due.feed(x, "h");
        x.term(0, 0);
        x.pass(9999);
        int[] minutes = {0, 59, 60, 119, 120, 1379, 1380, 1439, 1440, 1499, 1500, 2879, 2880, 9998};
        int[] due = {0, 0, 1, 1, 2, 22, 23, 23, 0, 0, 1, 23, 0, 22};
        for (int i = 0; i < due.length; i++) {
            Edge.is(x.worth(0, minutes[i]), due[i]);
        }
    }

    private static void nodeNumbers() {
        EarPaper x = new EarPaper();
        for (int i = 1; i < 20; i++) {
            Edge.is(x.node(i - 1, 1), i);
        }
        Edge.is(x.count(1), 20);
        Edge.is(x.node(19, 1), -6);
        Edge.is(x.loud(19, 50), 31);
        Edge.is(x.loud(20, 50), -1);
    }

    private static void house() {
        EarPaper x = new EarPaper();
        Edge.is(x.count(1), 1);
        Edge.is(x.loud(0, 1), 1);
        Edge.is(x.home(0, 1, 0, 0), 0);
        Edge.is(x.node(0, 1), 1);
    }

    private static void wires() {
        EarPaper x = new EarPaper();
        Edge.is(x.node(1, 1), -1);
        Edge.is(x.node(0, 1), 1);
        Edge.is(x.node(0, 99), 2);
        Edge.is(x.node(2, 1), 3);
        Edge.is(x.node(0, 0), -4);
        Edge.is(x.node(0, 100), -6);
        Edge.is(x.loud(1, 200), 199);
        Edge.is(x.loud(2, 200), 101);
        Edge.is(x.loud(3, 200), 100);
    }

    private static void boosts() {
        EarPaper x = new EarPaper();
        x.node(0, 1);
        Edge.is(x.loud(1, 50), 49);
        Edge.is(x.boost(1, 99), 0);
        Edge.is(x.loud(1, 50), 148);
        Edge.is(x.boost(1, 100), -6);
        Edge.is(x.boost(1, -1), -4);
        Edge.is(x.boost(1, 0), 99);
        Edge.is(x.loud(1, 50), 49);
    }

    private static void weathers() {
        EarPaper x = new EarPaper();
        x.stage(5);
        Edge.is(x.weather(20), 0);
        x.stage(5);
        Edge.is(x.weather(21), -6);
        Edge.is(x.weather(-1), -4);
        x.pass(1);
        Edge.is(x.weather(0), 20);
        x.stage(5);
        int[] due = {0, 20, 20, 0};
        for (int minute = 0; minute < due.length; minute++) {
            Edge.is(x.minuteOf(minute, 6), due[minute]);
        }
    }

    private static void cuts() {
        EarPaper x = new EarPaper();
        x.node(0, 1);
        for (int i = 1; i <= 39; i++) {
            Edge.is(x.cut(1, 5, 5), i);
        }
        Edge.is(x.cut(1, 0, 0), 40);
        Edge.is(x.loud(1, 50), 0);
        Edge.is(x.cut(1, 1, 1), -6);
        x.pass(1);
        Edge.is(x.loud(1, 50), 49);
        // Those that are over count among them, too.
        Edge.is(x.cut(1, 1, 1), -6);
    }

    private static void cutMinutes() {
        EarPaper x = new EarPaper();
        x.node(0, 1);
        x.pass(1);
        x.cut(1, 1, 1);
        x.cut(1, 3, 5);
        x.cut(1, 9999, 9999);
        int[] due = {0, 49, 0, 0, 0, 49};
        for (int minute = 1; minute <= due.length; minute++) {
            Edge.is(x.loud(1, 50), due[minute - 1]);
            x.pass(1);
        }
        x.pass(9998 - 7);
        Edge.is(x.loud(1, 50), 49);
        x.pass(1);
        Edge.is(x.loud(1, 50), 0);
    }

    private static void voices() {
        EarPaper x = new EarPaper();
        x.node(0, 1);
        Edge.is(x.loud(1, 0), -4);
        Edge.is(x.loud(1, 1), 0);
        Edge.is(x.loud(1, 2), 1);
        Edge.is(x.loud(1, 999), 998);
        Edge.is(x.loud(1, 1000), -6);
    }

    private static void atTheHouse() {
        EarPaper x = new EarPaper();
        x.weather(20);
        x.boost(0, 99);
        Edge.is(x.loud(0, 1), 1);
        Edge.is(x.loud(0, 999), 999);
    }

    private static void wireLoss() {
        EarPaper x = new EarPaper();
        x.node(0, 9);
        x.node(0, 10);
        x.node(1, 9);
        int[] weathers = {0, 1, 2, 9, 10, 19, 20};
        int[] nine = {9, 9, 10, 17, 18, 26, 27};
        int[] ten = {10, 11, 12, 19, 20, 29, 30};
        for (int i = 0; i < weathers.length; i++) {
            x.weather(weathers[i]);
            Edge.is(x.loud(1, 500), 500 - nine[i]);
            Edge.is(x.loud(2, 500), 500 - ten[i]);
            Edge.is(x.loud(3, 500), 500 - 2 * nine[i]);
        }
    }

    private static void notBelowNought() {
        EarPaper x = new EarPaper();
        x.node(0, 20);
        x.node(1, 1);
        Edge.is(x.loud(1, 21), 1);
        Edge.is(x.loud(1, 20), 0);
        Edge.is(x.loud(1, 19), 0);
        Edge.is(x.loud(2, 21), 0);
        Edge.is(x.loud(2, 1), 0);
    }

    private static void cutIsSilent() {
        EarPaper x = new EarPaper();
        x.node(0, 1);
        x.node(1, 1);
        x.node(0, 1);
        x.boost(1, 50);
        x.boost(2, 50);
        x.cut(1, 0, 0);
        Edge.is(x.loud(0, 999), 999);
        Edge.is(x.loud(1, 999), 0);
        Edge.is(x.loud(2, 999), 0);
        Edge.is(x.loud(3, 999), 998);
        x.pass(1);
        Edge.is(x.loud(2, 100), 198);
    }

    private static void boosted() {
        EarPaper x = new EarPaper();
        x.node(0, 10);
        x.node(1, 10);
        x.boost(1, 50);
        Edge.is(x.loud(1, 10), 0);
        Edge.is(x.loud(2, 10), 0);
        Edge.is(x.loud(1, 11), 51);
        Edge.is(x.loud(2, 11), 41);
        Edge.is(x.loud(1, 958), 998);
        Edge.is(x.loud(1, 959), 999);
        Edge.is(x.loud(1, 960), 999);
        // What is above 999 is lost ahead of the next wire.
        Edge.is(x.loud(2, 999), 989);
    }

    // ---- promises 1 to 7 ----

    private static void newObject() {
        EarPaper x = new EarPaper();
        for (int what = 0; what <= 18; what++) {
            Edge.is(x.count(what), what == 1 ? 1 : 0);
        }
        Edge.is(x.account(0, 0), 4000000000000000001L);
        Edge.is(x.boost(0, 1), 0);
        Edge.is(x.weather(1), 0);
        Edge.is(x.least(1), 10);
        Edge.is(x.rests(1, 1), 60030);
        Edge.is(x.breaks(0), 0);
        Edge.is(x.sold(0, 0), -9);
        Edge.is(x.judge(), 0);
    }

    private static void pass() {
        EarPaper x = new EarPaper();
        Edge.is(x.pass(1), 1);
        Edge.is(x.pass(2), 3);
        Edge.is(x.count(8), 3);
        Edge.is(x.minuteOf(2, 0), 6);
        Edge.is(x.pass(9996), 9999);
        Edge.is(x.count(8), 9999);
        Edge.is(new EarPaper().pass(9999), 9999);
    }

    private static void passRefused() {
        Refused.with(-4, Scene.BARE, x -> x.pass(0));
        Refused.with(-4, Scene.DAY, x -> x.pass(0));
        Refused.with(-4, Scene.DAY, x -> x.pass(-1));
        Refused.with(-4, Scene.DAY, x -> x.pass(Integer.MIN_VALUE));
        Refused.with(-6, Scene.BARE, x -> x.pass(10000));
        Refused.with(-6, Scene.DAY, x -> x.pass(9999 - 12 + 1));
        Refused.with(-6, Scene.DAY, x -> x.pass(Integer.MAX_VALUE));
        Refused.with(-6, Scene.END, x -> x.pass(1));
        Refused.with(-4, Scene.END, x -> x.pass(0));
    }

    private static void node() {
        EarPaper x = new EarPaper();
        Edge.is(x.node(0, 1), 1);
        Edge.is(x.node(0, 99), 2);
        Edge.is(x.node(1, 1), 3);
        Edge.is(x.count(1), 4);
    }

    private static void nodeRefused() {
        Refused.with(-1, Scene.DAY, x -> x.node(4, 1));
        Refused.with(-1, Scene.DAY, x -> x.node(-1, 1));
        Refused.with(-1, Scene.DAY, x -> x.node(Integer.MAX_VALUE, 0));
        Refused.with(-1, Scene.DAY, x -> x.node(4, 100));
        Refused.with(-4, Scene.DAY, x -> x.node(3, 0));
        Refused.with(-4, Scene.DAY, x -> x.node(0, Integer.MIN_VALUE));
        Refused.with(-6, Scene.DAY, x -> x.node(3, 100));
        Refused.with(-6, Scene.DAY, x -> x.node(0, Integer.MAX_VALUE));
        Refused.with(-6, FULL_NODES, x -> x.node(0, 1));
        Refused.with(-1, FULL_NODES, x -> x.node(20, 1));
        Refused.with(-4, FULL_NODES, x -> x.node(0, 0));
    }

    private static void boost() {
        EarPaper x = new EarPaper();
        x.node(0, 1);
        Edge.is(x.boost(1, 0), 0);
        Edge.is(x.boost(1, 99), 0);
        Edge.is(x.boost(0, 5), 0);
        Edge.is(x.boost(1, 1), 99);
        Edge.is(x.boost(0, 0), 5);
    }

    private static void boostRefused() {
        Refused.with(-1, Scene.DAY, x -> x.boost(4, 1));
        Refused.with(-1, Scene.DAY, x -> x.boost(-1, -1));
        Refused.with(-1, Scene.DAY, x -> x.boost(4, 100));
        Refused.with(-4, Scene.DAY, x -> x.boost(1, -1));
        Refused.with(-4, Scene.DAY, x -> x.boost(0, Integer.MIN_VALUE));
        Refused.with(-6, Scene.DAY, x -> x.boost(1, 100));
        Refused.with(-6, Scene.DAY, x -> x.boost(0, Integer.MAX_VALUE));
    }

    private static void weather() {
        EarPaper x = new EarPaper();
        Edge.is(x.weather(0), 0);
        Edge.is(x.weather(20), 0);
        Edge.is(x.weather(1), 20);
        x.pass(1);
        Edge.is(x.weather(3), 1);
        Edge.is(x.minuteOf(0, 6), 1);
    }

    private static void weatherRefused() {
        Refused.with(-4, Scene.DAY, x -> x.weather(-1));
        Refused.with(-4, Scene.DAY, x -> x.weather(Integer.MIN_VALUE));
        Refused.with(-6, Scene.DAY, x -> x.weather(21));
        Refused.with(-6, Scene.DAY, x -> x.weather(Integer.MAX_VALUE));
    }

    private static void cut() {
        EarPaper x = new EarPaper();
        x.node(0, 1);
        Edge.is(x.cut(1, 0, 0), 1);
        Edge.is(x.cut(1, 0, 9999), 2);
        Edge.is(x.cut(1, 9999, 9999), 3);
        x.pass(9999);
        Edge.is(x.cut(1, 9999, 9999), 4);
        Edge.is(x.count(4), 4);
    }

    private static void cutOfNobody() {
        Refused.with(-1, Scene.DAY, x -> x.cut(0, 12, 12));
        Refused.with(-1, Scene.DAY, x -> x.cut(4, 12, 12));
        Refused.with(-1, Scene.DAY, x -> x.cut(-1, 12, 12));
        Refused.with(-1, Scene.DAY, x -> x.cut(0, 11, 12));
        Refused.with(-1, Scene.DAY, x -> x.cut(4, 12, 10000));
    }

    private static void cutBelow() {
        Refused.with(-4, Scene.DAY, x -> x.cut(1, 11, 12));
        Refused.with(-4, Scene.DAY, x -> x.cut(1, -1, 12));
        Refused.with(-4, Scene.DAY, x -> x.cut(1, Integer.MIN_VALUE, 12));
        Refused.with(-4, Scene.DAY, x -> x.cut(1, 13, 12));
        Refused.with(-4, Scene.DAY, x -> x.cut(1, 12, -1));
        Refused.with(-4, Scene.DAY, x -> x.cut(1, 11, 10000));
        Refused.with(-4, Scene.DAY, x -> x.cut(1, 10001, 10000));
        Refused.with(-4, Scene.END, x -> x.cut(1, 9998, 9999));
        Refused.with(-4, FULL_CUTS, x -> x.cut(1, 1, 0));
    }

    private static void cutRoom() {
        Refused.with(-6, Scene.DAY, x -> x.cut(1, 12, 10000));
        Refused.with(-6, Scene.DAY, x -> x.cut(1, 10000, 10000));
        Refused.with(-6, Scene.DAY, x -> x.cut(1, 12, Integer.MAX_VALUE));
        Refused.with(-6, FULL_CUTS, x -> x.cut(1, 0, 0));
        Refused.with(-1, FULL_CUTS, x -> x.cut(0, 0, 0));
    }

    private static void loud() {
        EarPaper x = new EarPaper();
        x.node(0, 10);
        Edge.is(x.loud(1, 30), 20);
        x.weather(10);
        Edge.is(x.loud(1, 30), 10);
        x.boost(1, 5);
        Edge.is(x.loud(1, 30), 15);
        x.cut(1, 1, 1);
        Edge.is(x.loud(1, 30), 15);
        x.pass(1);
        Edge.is(x.loud(1, 30), 0);
    }

    private static void loudRefused() {
        Refused.with(-1, Scene.DAY, x -> x.loud(4, 50));
        Refused.with(-1, Scene.DAY, x -> x.loud(-1, 0));
        Refused.with(-1, Scene.DAY, x -> x.loud(4, 1000));
        Refused.with(-4, Scene.DAY, x -> x.loud(0, 0));
        Refused.with(-4, Scene.DAY, x -> x.loud(3, Integer.MIN_VALUE));
        Refused.with(-6, Scene.DAY, x -> x.loud(0, 1000));
        Refused.with(-6, Scene.DAY, x -> x.loud(3, Integer.MAX_VALUE));
    }
}
