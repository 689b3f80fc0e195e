/** Every sentence of the document that names an edge, each with a test of its own. */
public final class EdgesTest {
    public static void main(String[] args) {
        Edge.of(Document.WHAT, "An object is used for at most 512 calls after it has been made;", EdgesTest::calls);
        NetEdges.all();
        HomeEdges.all();
        ReaderEdges.all();
        TextEdges.all();
        BreakEdges.all();
        NewsEdges.all();
        AdvertEdges.all();
        refusals();
        Edge.of(38, "0 MINUTE, 1 NODES, 2 HOMES, 3 READERS, 4 CUTS, 5 TERMS, 6 NEWS, 7 ADVERTS, 8 DEAD MINUTES, 9 bytes on "
            + "THE TAPE, 10 numbers of the row, 11 .. 16 REFUSALS -1 .. -6, 17 HOMES that COMPLAIN, 18 SOLD MINUTES.",
            EdgesTest::counts);
        Edge.of(38, "-9 for another what.", EdgesTest::otherCounts);
        Edge.noneLeftOut();
        Due.end();
    }

    private static void refusals() {
        int at = Document.TERMS;
        Edge.of(at, "REFUSALS (the call answers the number, the first that fits in the order in which it tells them; nothing "
            + "changes but how many there were):", EdgesTest::firstThatFits);
        Edge.of(at, "-1 NOBODY: no such NODE, HOME, READER, MINUTE, NEWS.", EdgesTest::nobody);
        Edge.of(at, "-2 OTHER: what, KIND, PURPOSE.", EdgesTest::other);
        Edge.of(at, "-3 STATE: it is not as it must be.", EdgesTest::state);
        Edge.of(at, "-4 BELOW: a number below the least.", EdgesTest::below);
        Edge.of(at, "-6 ROOM: a number above the greatest, no room.", EdgesTest::room);
        Edge.of(at, "Longs (ACCOUNTS) that are REFUSALS are 4000000000000000000 less them (-1 as 4000000000000000001).",
            EdgesTest::longs);
    }

    /** The 512th call answers as the first one does. */
    private static void calls() {
        EarPaper x = new EarPaper();
        for (int i = 0; i < 511; i++) {
            x.stage(5);
        }
        Edge.is(x.stage(5), 511);
        EarPaper refused = new EarPaper();
        for (int i = 0; i < 511; i++) {
            refused.pass(0);
        }
        Edge.is(refused.count(14), 511);
        EarPaper fed = new EarPaper();
        for (int i = 0; i < 255; i++) {
            fed.feed(1, 'x');
            fed.term(0, 0);
        }
        fed.feed(1, '7');
        Edge.is(fed.term(0, 0), 1);
    }

    // ---- refusals ----

    /** One call that fits more and more of them. */
    private static void firstThatFits() {
        EarPaper x = new EarPaper();
        x.reader(50);
        x.rests(1, 240);
        x.pass(9998);
        x.say(4, 0, 0);
        Edge.is(x.say(3, 1, 9999), -2);
        Edge.is(x.say(1, 1, 9999), -1);
        Edge.is(x.say(1, 0, 9999), -1);
        Edge.is(x.say(1, 0, 9998), -3);
        Edge.is(x.say(4, 0, 0), -3);
        x.rests(1, 0);
        Edge.is(x.say(1, 0, 9998), -3);
        Edge.is(x.say(4, 0, 0), -6);
        int[] due = {2, 1, 3, 0, 0, 1};
        for (int i = 0; i < due.length; i++) {
            Edge.is(x.count(11 + i), due[i]);
        }
        Edge.is(x.count(0), 9999);
    }

    private static void nobody() {
        Refused.with(-1, Scene.DAY, x -> x.loud(4, 5));
        Refused.with(-1, Scene.DAY, x -> x.hears(4, 5));
        Refused.with(-1, Scene.DAY, x -> x.mayRead(2));
        Refused.with(-1, Scene.DAY, x -> x.minuteOf(12, 0));
        Refused.with(-1, Scene.DAY, x -> x.printed(3, 12));
        EarPaper x = new EarPaper();
        Scene.DAY.accept(x);
        Edge.is(x.loud(3, 50), 44);
        Edge.is(x.hears(3, 50), 1);
        Edge.is(x.mayRead(1), 1);
        Edge.is(x.minuteOf(11, 0), 4);
        Edge.is(x.printed(2, 12), 1);
    }

    private static void other() {
        Refused.with(-2, Scene.DAY, x -> x.breaks(3));
        Refused.with(-2, Scene.DAY, x -> x.minuteOf(0, 7));
        Refused.with(-2, Scene.DAY, x -> x.say(3, 1, 0));
        Refused.with(-2, Scene.DAY, x -> x.say(6, 1, 0));
        Refused.with(-2, Scene.DAY, x -> x.term(4, 12));
        Refused.as(1000000002, -2, Scene.DAY, x -> x.worth(3, 0));
    }

    private static void state() {
        Refused.with(-3, Scene.DAY, x -> x.say(4, 0, 0));
        Refused.with(-3, Scene.DAY, x -> x.could(1, 5));
        Refused.with(-3, Scene.DAY, x -> x.printed(1, 12));
        Refused.with(-3, Scene.DAY, x -> x.lag(2));
        Refused.with(-3, Scene.DAY, x -> x.fresh(2));
        Refused.with(-3, Scene.DAY, x -> x.order(1, 1, 2, 221));
    }

    private static void below() {
        Refused.with(-4, Scene.DAY, x -> x.pass(0));
        Refused.with(-4, Scene.DAY, x -> x.stage(0));
        Refused.with(-4, Scene.DAY, x -> x.weather(-1));
        Refused.with(-4, Scene.DAY, x -> x.cut(1, 11, 12));
        EarPaper x = new EarPaper();
        Scene.DAY.accept(x);
        Edge.is(x.weather(0), 2);
        Edge.is(x.cut(1, 12, 12), 3);
        Edge.is(x.stage(1), 12);
        Edge.is(x.pass(1), 14);
    }

    private static void room() {
        Refused.with(-6, Scene.DAY, x -> x.pass(9988));
        Refused.with(-6, Scene.DAY, x -> x.stage(1000));
        Refused.with(-6, Scene.DAY, x -> x.weather(21));
        Refused.with(-6, Scene.DAY, x -> x.cut(1, 12, 10000));
        EarPaper x = new EarPaper();
        Scene.DAY.accept(x);
        Edge.is(x.weather(20), 2);
        Edge.is(x.cut(1, 12, 9999), 3);
        Edge.is(x.stage(999), 12);
        Edge.is(x.pass(9986), 9999);
    }

    private static void longs() {
        Refused.as(4000000000000000001L, -1, Scene.DAY, x -> x.account(3, 2));
        Refused.as(4000000000000000001L, -1, Scene.DAY, x -> x.account(3, 12));
    }

    // ---- promise 38 ----

    private static void counts() {
        EarPaper x = new EarPaper();
        Scene.DAY.accept(x);
        x.loud(9, 9);
        x.breaks(9);
        x.breaks(9);
        for (int i = 0; i < 3; i++) {
            x.say(4, 0, 0);
        }
        for (int i = 0; i < 4; i++) {
            x.pass(0);
        }
        for (int i = 0; i < 5; i++) {
            x.pass(9999);
        }
        x.worth(0, 12);
        x.worth(3, 0);
        x.account(0, 12);
        int[] due = {12, 4, 4, 2, 2, 4, 3, 3, 2, 4, 3, 3, 3, 3, 4, 0, 5, 1, 2};
        for (int what = 0; what < due.length; what++) {
            Edge.is(x.count(what), due[what]);
        }
    }

    private static void otherCounts() {
        EarPaper x = new EarPaper();
        int[] others = {-1, 19, -9, 255, Integer.MIN_VALUE, Integer.MAX_VALUE};
        for (int what : others) {
            Edge.is(x.count(what), -9);
        }
        Edge.is(x.count(18), 0);
        for (int what = 11; what <= 16; what++) {
            Edge.is(x.count(what), 0);
        }
    }
}
