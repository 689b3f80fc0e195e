import java.util.function.Consumer;

/** Edges of terms IV and of promises 22 to 27. */
final class BreakEdges {
    private static final int ALL = 16777215;
    private static final int TWELVE = 4095;
    private static final int THIRTEEN = 8191;
    private static final Consumer<EarPaper> FULL_CHANCES = x -> {
        for (int i = 1; i <= 10; i++) {
            x.node(0, 1);
        }
        for (int i = 0; i < 9; i++) {
            x.could(i, 1);
        }
    };

    private BreakEdges() {
    }

    static void all() {
        terms();
        Edge.of(22, "A HOME COMPLAINS, or not any more: 1; 0 if it was so.", BreakEdges::complain);
        Edge.of(22, "-1.", BreakEdges::complainRefused);
        Edge.of(23, "What 0 FEWEST, 1 RIVALS, 2 the set; -9 none.", BreakEdges::breaks);
        Edge.of(23, "-2.", BreakEdges::breaksRefused);
        Edge.of(24, "A BOOST that could be: its number.", BreakEdges::could);
        Edge.of(24, "-1; -3 told of that NODE; -4; -6 (9, too).", BreakEdges::couldRefused);
        Edge.of(25, "FEWEST BOOSTS; -9.", BreakEdges::boosts);
        Edge.of(25, "-4; -6.", BreakEdges::boostsRefused);
        Edge.of(26, "COVERS of a MINUTE in HOURS (0 .. 16777215).", BreakEdges::covers);
        Edge.of(26, "-1; -4; -6.", BreakEdges::coversRefused);
        Edge.of(27, "FEWEST HOURS; -9.", BreakEdges::rights);
        Edge.of(27, "-1; -4; -6 (more than 12 HOURS, too).", BreakEdges::rightsRefused);
    }

    private static void terms() {
        int at = Document.TERMS;
        Edge.of(at, "HOMES COMPLAIN (told, or not any more).", BreakEdges::complaints);
        Edge.of(at, "A set of NODES (1 .. 11 of them; later ones count nothing) EXPLAINS,", BreakEdges::laterNodes);
        Edge.of(at, "if each one that COMPLAINS has a WIRE of these between itself and the HOUSE, and no other HOME has.",
            BreakEdges::explains);
        Edge.of(at, "FEWEST, RIVALS (how many sets are as few), the least of them as bits;", BreakEdges::rivals);
        Edge.of(at, "none if there is none (nobody COMPLAINS: the empty one).", BreakEdges::noSet);
        Edge.of(at, "BOOSTS that could be: NODES (9 at most, told), each with a gain (1 .. 99) more than it has.",
            BreakEdges::gains);
        Edge.of(at, "FEWEST of them so that all HOMES HEAR a VOICE with the WEATHER and without CUTS of now: of several sets "
            + "the least as bits (bit k: the k-th told); -9 none.", BreakEdges::fewestBoosts);
        Edge.of(at, "A RIGHT one of a MINUTE could be said in HOURS (bits) with a VOICE, WEATHER as now, no CUTS:",
            BreakEdges::asNow);
        Edge.of(at, "COVERS: HOMES that HEARD that MINUTE maybe (MOST) and would HEAR, listening SURELY, in one of these "
            + "HOURS at least.", BreakEdges::coversWhom);
        Edge.of(at, "FEWEST HOURS of told ones (12 at most) so that COVERS is RIGHTED's worth or more: of several sets the "
            + "least as bits; -9 none.", BreakEdges::fewestHours);
    }

    private static void told(EarPaper x, int fewest, int rivals, int set) {
        Edge.is(x.breaks(0), fewest);
        Edge.is(x.breaks(1), rivals);
        Edge.is(x.breaks(2), set);
    }

    /** So many nodes, one behind the other. */
    private static EarPaper chain(int nodes) {
        EarPaper x = new EarPaper();
        for (int i = 0; i < nodes; i++) {
            x.node(i, 1);
        }
        return x;
    }

    // ---- terms IV ----

    private static void complaints() {
        EarPaper x = chain(1);
        x.home(1, 1, 0, 0);
        Edge.is(x.count(17), 0);
        told(x, 0, 1, 0);
        x.complain(0, true);
        Edge.is(x.count(17), 1);
        told(x, 1, 1, 2);
        x.complain(0, false);
        Edge.is(x.count(17), 0);
        told(x, 0, 1, 0);
    }

    private static void laterNodes() {
        EarPaper x = new EarPaper();
        for (int i = 1; i <= 12; i++) {
            x.node(0, 1);
            x.home(i, 1, 0, 0);
        }
        x.complain(0, true);
        told(x, 1, 1, 2);
        x.complain(10, true);
        told(x, 2, 1, 2 | 1 << 11);
        x.complain(11, true);
        told(x, -9, -9, -9);
        x.complain(11, false);
        for (int i = 1; i <= 9; i++) {
            x.complain(i, true);
        }
        told(x, 11, 1, 4094);
        EarPaper deep = chain(13);
        deep.home(13, 1, 0, 0);
        deep.complain(0, true);
        told(deep, 1, 11, 2);
        deep.home(11, 1, 0, 0);
        told(deep, -9, -9, -9);
    }

    private static void explains() {
        EarPaper x = chain(2);
        x.node(0, 1);
        x.home(0, 1, 0, 0);
        x.home(1, 1, 0, 0);
        x.home(2, 1, 0, 0);
        x.home(3, 1, 0, 0);
        x.complain(2, true);
        told(x, 1, 1, 4);
        x.complain(1, true);
        told(x, 1, 1, 2);
        x.complain(3, true);
        told(x, 2, 1, 10);
        x.complain(2, false);
        told(x, -9, -9, -9);
        x.complain(2, true);
        x.complain(0, true);
        told(x, -9, -9, -9);
        EarPaper y = chain(2);
        y.home(1, 1, 0, 0);
        y.home(2, 1, 0, 0);
        y.complain(1, true);
        told(y, 1, 1, 4);
        y.complain(1, false);
        y.complain(0, true);
        told(y, -9, -9, -9);
    }

    private static void rivals() {
        EarPaper x = chain(11);
        x.home(11, 1, 0, 0);
        x.complain(0, true);
        told(x, 1, 11, 2);
        x.home(4, 1, 0, 0);
        told(x, 1, 7, 32);
        x.home(10, 1, 0, 0);
        told(x, 1, 1, 2048);
        EarPaper y = new EarPaper();
        y.node(0, 1);
        y.node(1, 1);
        y.node(0, 1);
        y.node(3, 1);
        y.home(2, 1, 0, 0);
        y.home(4, 1, 0, 0);
        y.complain(0, true);
        y.complain(1, true);
        told(y, 2, 4, 2 | 8);
        y.home(1, 1, 0, 0);
        told(y, 2, 2, 4 | 8);
    }

    private static void noSet() {
        EarPaper x = new EarPaper();
        told(x, 0, 1, 0);
        x.home(0, 1, 0, 0);
        told(x, 0, 1, 0);
        x.complain(0, true);
        told(x, -9, -9, -9);
        x.node(0, 1);
        told(x, -9, -9, -9);
        x.complain(0, false);
        told(x, 0, 1, 0);
    }

    private static void gains() {
        EarPaper x = new EarPaper();
        for (int i = 1; i <= 10; i++) {
            x.node(0, 10);
        }
        Edge.is(x.could(1, 1), 0);
        Edge.is(x.could(2, 99), 1);
        Edge.is(x.could(3, 0), -4);
        Edge.is(x.could(3, 100), -6);
        for (int i = 3; i <= 9; i++) {
            Edge.is(x.could(i, 5), i - 1);
        }
        Edge.is(x.could(10, 5), -6);
        x.home(1, 1, 0, 0);
        Edge.is(x.boosts(20), 0);
        Edge.is(x.boosts(19), 1);
        Edge.is(x.boosts(18), -9);
        x.boost(1, 4);
        Edge.is(x.boosts(16), 0);
        Edge.is(x.boosts(15), 1);
        Edge.is(x.boosts(14), -9);
        x.home(2, 9, 0, 0);
        Edge.is(x.boosts(16), 2);
        Edge.is(x.boosts(15), 3);
        x.least(11);
        Edge.is(x.boosts(16), 3);
    }

    private static void fewestBoosts() {
        EarPaper x = new EarPaper();
        for (int i = 1; i <= 9; i++) {
            x.node(0, 10);
            x.home(i, 1, 0, 0);
        }
        for (int i = 9; i >= 1; i--) {
            x.could(i, 10);
        }
        Edge.is(x.boosts(20), 0);
        Edge.is(x.boosts(19), 511);
        Edge.is(x.boosts(11), 511);
        Edge.is(x.boosts(10), -9);
        x.boost(9, 20);
        Edge.is(x.boosts(19), 510);
        x.cut(1, 0, 9999);
        Edge.is(x.boosts(19), 510);
        x.weather(1);
        Edge.is(x.boosts(20), 510);
        Edge.is(x.boosts(21), 0);
        EarPaper y = chain(3);
        y.home(3, 1, 0, 0);
        y.could(3, 9);
        y.could(2, 5);
        y.could(1, 9);
        Edge.is(y.boosts(13), 0);
        Edge.is(y.boosts(12), 1);
        Edge.is(y.boosts(4), 1);
        Edge.is(y.boosts(3), 3);
        Edge.is(y.boosts(2), 5);
        Edge.is(y.boosts(1), -9);
        y.least(14);
        Edge.is(y.boosts(4), 3);
        y.boost(2, 1);
        y.least(16);
        Edge.is(y.boosts(4), 3);
        y.least(19);
        Edge.is(y.boosts(4), 5);
        y.least(25);
        Edge.is(y.boosts(4), 7);
        y.least(26);
        Edge.is(y.boosts(4), -9);
    }

    private static void asNow() {
        EarPaper x = chain(1);
        x.home(1, 1, 1, 0);
        x.stage(11);
        x.cut(1, 1, 9999);
        Edge.is(x.covers(0, 1, 11), 1);
        Edge.is(x.covers(0, 1, 10), 0);
        Edge.is(x.rights(0, 1, 11), 1);
        Edge.is(x.rights(0, 1, 10), -9);
        x.weather(10);
        Edge.is(x.covers(0, 1, 11), 0);
        Edge.is(x.covers(0, 1, 12), 1);
        Edge.is(x.rights(0, 1, 11), -9);
        Edge.is(x.rights(0, 1, 12), 1);
        x.stage(999);
        Edge.is(x.covers(1, 1, 12), 0);
    }

    private static void coversWhom() {
        EarPaper x = new EarPaper();
        x.reader(20);
        x.home(0, 1, 3, 0);
        x.home(0, 1, 2, 1);
        x.home(0, 1, 2, 4);
        x.home(0, 1, 0, 3);
        x.home(0, 3, 3, 0);
        x.home(0, 2, 1 << 23, 1);
        x.say(4, 0, 0);
        x.say(2, 0, 0);
        x.pass(1);
        Edge.is(x.covers(0, 1, 99), 1);
        Edge.is(x.covers(0, 2, 99), 2);
        Edge.is(x.covers(0, 3, 99), 2);
        Edge.is(x.covers(0, 1 << 23, 99), 1);
        Edge.is(x.covers(0, ALL, 20), 3);
        Edge.is(x.covers(0, ALL, 19), 2);
        Edge.is(x.covers(0, ALL, 9), 0);
        Edge.is(x.covers(0, 0, 99), 0);
        Edge.is(x.covers(1, 2, 99), 3);
        Edge.is(x.covers(1, ALL, 99), 4);
        Edge.is(x.covers(2, ALL, 99), 0);
    }

    private static void fewestHours() {
        EarPaper x = new EarPaper();
        String[] rights = {"3", "2", "1", "0", "0-1", "4"};
        for (int i = 0; i < rights.length; i++) {
            Due.feed(x, rights[i]);
            x.term(2, i);
        }
        x.home(0, 1, 2, 1);
        x.home(0, 1, 6, 1);
        x.home(0, 1, 12, 1);
        for (int i = 0; i < rights.length; i++) {
            x.stage(50);
        }
        int[] due = {6, 2, 2, 0, 0, -9};
        for (int minute = 0; minute < due.length; minute++) {
            Edge.is(x.rights(minute, TWELVE, 50), due[minute]);
        }
        Edge.is(x.rights(0, 10, 50), 10);
        Edge.is(x.rights(0, 4, 50), -9);
        Edge.is(x.rights(1, 4, 50), 4);
        Edge.is(x.rights(1, 9, 50), -9);
        Edge.is(x.rights(2, 8, 50), 8);
        Edge.is(x.rights(2, 0, 50), -9);
        Edge.is(x.rights(3, 0, 50), 0);
        Edge.is(x.rights(1, TWELVE, 9), -9);
    }

    // ---- promises 22 to 27 ----

    private static void complain() {
        EarPaper x = new EarPaper();
        x.home(0, 1, 0, 0);
        x.home(0, 1, 0, 0);
        Edge.is(x.complain(0, false), 0);
        Edge.is(x.complain(0, true), 1);
        Edge.is(x.complain(0, true), 0);
        Edge.is(x.complain(1, false), 0);
        Edge.is(x.complain(1, true), 1);
        Edge.is(x.complain(0, false), 1);
        Edge.is(x.complain(0, false), 0);
        Edge.is(x.complain(0, true), 1);
    }

    private static void complainRefused() {
        Refused.with(-1, Scene.BARE, x -> x.complain(0, true));
        Refused.with(-1, Scene.DAY, x -> x.complain(4, true));
        Refused.with(-1, Scene.DAY, x -> x.complain(4, false));
        Refused.with(-1, Scene.DAY, x -> x.complain(-1, true));
        Refused.with(-1, Scene.DAY, x -> x.complain(Integer.MIN_VALUE, false));
    }

    private static void breaks() {
        EarPaper x = chain(2);
        Edge.is(x.breaks(0), 0);
        Edge.is(x.breaks(1), 1);
        Edge.is(x.breaks(2), 0);
        x.home(2, 1, 0, 0);
        x.complain(0, true);
        Edge.is(x.breaks(0), 1);
        Edge.is(x.breaks(1), 2);
        Edge.is(x.breaks(2), 2);
        x.home(2, 1, 0, 0);
        Edge.is(x.breaks(0), -9);
        Edge.is(x.breaks(1), -9);
        Edge.is(x.breaks(2), -9);
    }

    private static void breaksRefused() {
        Refused.with(-2, Scene.BARE, x -> x.breaks(3));
        Refused.with(-2, Scene.DAY, x -> x.breaks(3));
        Refused.with(-2, Scene.DAY, x -> x.breaks(-1));
        Refused.with(-2, Scene.DAY, x -> x.breaks(Integer.MAX_VALUE));
        Refused.with(-2, Scene.DAY, x -> x.breaks(Integer.MIN_VALUE));
    }

    private static void could() {
        EarPaper x = chain(19);
        Edge.is(x.could(19, 99), 0);
        Edge.is(x.could(0, 1), 1);
        for (int i = 2; i <= 8; i++) {
            Edge.is(x.could(i, 1), i);
        }
        Edge.is(x.could(9, 1), -6);
    }

    private static void couldRefused() {
        Refused.with(-1, Scene.DAY, x -> x.could(4, 5));
        Refused.with(-1, Scene.DAY, x -> x.could(-1, 5));
        Refused.with(-1, Scene.DAY, x -> x.could(4, 0));
        Refused.with(-1, Scene.DAY, x -> x.could(-1, 100));
        Refused.with(-3, Scene.DAY, x -> x.could(1, 9));
        Refused.with(-3, Scene.DAY, x -> x.could(2, 0));
        Refused.with(-3, Scene.DAY, x -> x.could(2, 100));
        Refused.with(-4, Scene.DAY, x -> x.could(3, 0));
        Refused.with(-4, Scene.DAY, x -> x.could(0, Integer.MIN_VALUE));
        Refused.with(-6, Scene.DAY, x -> x.could(3, 100));
        Refused.with(-6, Scene.DAY, x -> x.could(0, Integer.MAX_VALUE));
        Refused.with(-6, FULL_CHANCES, x -> x.could(9, 5));
        Refused.with(-1, FULL_CHANCES, x -> x.could(11, 5));
        Refused.with(-3, FULL_CHANCES, x -> x.could(8, 5));
        Refused.with(-4, FULL_CHANCES, x -> x.could(9, 0));
    }

    private static void boosts() {
        EarPaper x = new EarPaper();
        Edge.is(x.boosts(1), 0);
        Edge.is(x.boosts(999), 0);
        x.node(0, 1);
        x.home(1, 1, 0, 0);
        x.could(1, 99);
        x.least(99);
        Edge.is(x.boosts(1), -9);
        Edge.is(x.loud(1, 2), 1);
        Edge.is(x.boosts(2), 1);
        Edge.is(x.boosts(99), 1);
        Edge.is(x.boosts(100), 0);
        Edge.is(x.boosts(999), 0);
        // What could be is not what is.
        Edge.is(x.loud(1, 2), 1);
        x.home(0, 1, 0, 0);
        Edge.is(x.boosts(98), -9);
        Edge.is(x.loud(1, 2), 1);
        Edge.is(x.boosts(99), 1);
    }

    private static void boostsRefused() {
        Refused.with(-4, Scene.DAY, x -> x.boosts(0));
        Refused.with(-4, Scene.DAY, x -> x.boosts(Integer.MIN_VALUE));
        Refused.with(-6, Scene.DAY, x -> x.boosts(1000));
        Refused.with(-6, Scene.DAY, x -> x.boosts(Integer.MAX_VALUE));
    }

    private static void covers() {
        EarPaper x = new EarPaper();
        x.home(0, 1, 1, 0);
        x.home(0, 1, 1 << 23, 1);
        x.home(0, 1, 0, ALL);
        x.stage(10);
        Edge.is(x.covers(0, 0, 10), 0);
        Edge.is(x.covers(0, 1, 10), 1);
        Edge.is(x.covers(0, 1 << 23, 10), 1);
        Edge.is(x.covers(0, ALL, 10), 2);
        Edge.is(x.covers(0, ALL - 1, 999), 1);
        Edge.is(x.covers(0, ALL, 1), 0);
        for (int home = 3; home < 40; home++) {
            x.home(0, 1, ALL, 0);
        }
        Edge.is(x.covers(0, ALL, 10), 39);
    }

    private static void coversRefused() {
        Refused.with(-1, Scene.BARE, x -> x.covers(0, 1, 50));
        Refused.with(-1, Scene.DAY, x -> x.covers(12, 1, 50));
        Refused.with(-1, Scene.DAY, x -> x.covers(-1, 1, 50));
        Refused.with(-1, Scene.DAY, x -> x.covers(12, -1, 1000));
        Refused.with(-4, Scene.DAY, x -> x.covers(0, -1, 50));
        Refused.with(-4, Scene.DAY, x -> x.covers(0, 1, 0));
        Refused.with(-4, Scene.DAY, x -> x.covers(0, Integer.MIN_VALUE, 1000));
        Refused.with(-4, Scene.DAY, x -> x.covers(0, ALL + 1, 0));
        Refused.with(-6, Scene.DAY, x -> x.covers(0, ALL + 1, 50));
        Refused.with(-6, Scene.DAY, x -> x.covers(0, Integer.MAX_VALUE, 50));
        Refused.with(-6, Scene.DAY, x -> x.covers(0, 0, 1000));
    }

    private static void rights() {
        EarPaper x = new EarPaper();
        for (int hour = 12; hour < 24; hour++) {
            x.home(0, 1, 1 << hour, 1);
        }
        x.stage(10);
        x.pass(1);
        Edge.is(x.rights(0, TWELVE << 12, 10), TWELVE << 12);
        Edge.is(x.rights(0, TWELVE, 10), -9);
        Edge.is(x.rights(0, TWELVE << 12, 9), -9);
        Edge.is(x.rights(0, 0, 10), -9);
        Edge.is(x.rights(1, 0, 10), 0);
        Edge.is(x.rights(1, TWELVE, 1), 0);
    }

    private static void rightsRefused() {
        Refused.with(-1, Scene.BARE, x -> x.rights(0, 1, 50));
        Refused.with(-1, Scene.DAY, x -> x.rights(12, 1, 50));
        Refused.with(-1, Scene.DAY, x -> x.rights(-1, -1, 1000));
        Refused.with(-1, Scene.DAY, x -> x.rights(12, THIRTEEN, 50));
        Refused.with(-4, Scene.DAY, x -> x.rights(0, -1, 50));
        Refused.with(-4, Scene.DAY, x -> x.rights(0, 1, 0));
        Refused.with(-4, Scene.DAY, x -> x.rights(0, THIRTEEN, 0));
        Refused.with(-4, Scene.DAY, x -> x.rights(0, ALL + 1, 0));
        Refused.with(-6, Scene.DAY, x -> x.rights(0, THIRTEEN, 50));
        Refused.with(-6, Scene.DAY, x -> x.rights(0, ALL, 50));
        Refused.with(-6, Scene.DAY, x -> x.rights(0, ALL + 1, 50));
        Refused.with(-6, Scene.DAY, x -> x.rights(0, 1, 1000));
        EarPaper x = new EarPaper();
        x.stage(5);
        Edge.is(x.rights(0, TWELVE, 1), 0);
        Edge.is(x.rights(0, TWELVE << 12, 999), 0);
    }
}
