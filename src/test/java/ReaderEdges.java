import java.util.function.Consumer;

/** Edges of terms II and of promises 11 to 15. */
final class ReaderEdges {
    private static final Consumer<EarPaper> FULL = x -> {
        for (int i = 0; i < 8; i++) {
            x.reader(50);
        }
    };
    /** Where a reader may read in minute 9999, and one that rests. */
    private static final Consumer<EarPaper> LATE = x -> {
        x.reader(50);
        x.reader(50);
        x.rests(1, 240);
        x.pass(9997);
        x.say(0, 1, -1);
        x.say(4, 0, 0);
    };
    private static final Consumer<EarPaper> LATE_ALARM = LATE.andThen(x -> {
        x.reader(50);
        Due.feed(x, "0");
        x.term(3, 9999);
    });

    private ReaderEdges() {
    }

    static void all() {
        terms();
        Edge.of(11, "A READER: its number.", ReaderEdges::reader);
        Edge.of(11, "-4; -6 (8, too).", ReaderEdges::readerRefused);
        Edge.of(12, "LONG and REST become others: 1000 times LONG and REST as they were.", ReaderEdges::rests);
        Edge.of(12, "-4; -6.", ReaderEdges::restsRefused);
        Edge.of(13, "Whether a READER may read now: 1, 0.", ReaderEdges::mayRead);
        Edge.of(13, "-1.", ReaderEdges::mayReadRefused);
        Edge.of(14, "A MINUTE is said (KIND 0, 1, 2, 4, 5; of: of AGAIN, RIGHT the earlier MINUTE; of READ NEWS, or -1; "
            + "else it counts nothing): its number.", ReaderEdges::say);
        Edge.of(14, "-2; -1 (READER, MINUTE, NEWS);", ReaderEdges::sayOfNobody);
        Edge.of(14, "-3 he may not read, the earlier one is of no such KIND, BREAK lets no ALARM;", ReaderEdges::sayState);
        Edge.of(14, "-6 9999.", ReaderEdges::sayRoom);
        Edge.of(15, "A STAGE MINUTE: its number.", ReaderEdges::stage);
        Edge.of(15, "-4; -6 (9999, too).", ReaderEdges::stageRefused);
    }

    private static void terms() {
        int at = Document.TERMS;
        Edge.of(at, "READERS have numbers from 0 on (8 at most): a VOICE (1 .. 999).", ReaderEdges::numbers);
        Edge.of(at, "One may read no more than LONG MINUTES on end (1 .. 240; 60 at first),", ReaderEdges::longs);
        Edge.of(at, "and then not for REST MINUTES (0 .. 240; 30 at first):", ReaderEdges::restMinutes);
        Edge.of(at, "if the MINUTES on end up to the last one that it read are LONG or more, none of the next REST ones is "
            + "its own (LONG, REST as they are now).", ReaderEdges::onEnd);
        Edge.of(at, "EACH MINUTE has a KIND: 0 READ, 1 AGAIN (what an earlier one said: READ, STAGE or RIGHT),",
            ReaderEdges::again);
        Edge.of(at, "2 ALARM, 3 STAGE, 4 SOLD, 5 RIGHT (puts an earlier READ one right), 6 DEAD.", ReaderEdges::right);
        Edge.of(at, "All but STAGE and DEAD are read by a READER;", ReaderEdges::readBy);
        Edge.of(at, "STAGE has the VOICE of the stage (told with it).", ReaderEdges::stageVoice);
        Edge.of(at, "What is said is said now, and the MINUTE goes by (ahead of 9999 alone).", ReaderEdges::saidNow);
        Edge.of(at, "What is not said is DEAD.", ReaderEdges::dead);
    }

    private static void sell(EarPaper x, int reader, int minutes) {
        for (int i = 0; i < minutes; i++) {
            x.say(4, reader, 0);
        }
    }

    // ---- terms II ----

    private static void numbers() {
        EarPaper x = new EarPaper();
        int[] voices = {1, 999, 2, 3, 4, 5, 6, 998};
        for (int i = 0; i < 8; i++) {
            Edge.is(x.reader(voices[i]), i);
            Edge.is(x.say(4, i, 0), i);
            Edge.is(x.minuteOf(i, 2), voices[i]);
        }
        Edge.is(x.reader(5), -6);
        Edge.is(x.mayRead(8), -1);
        Edge.is(x.reader(0), -4);
    }

    private static void longs() {
        EarPaper x = new EarPaper();
        x.reader(50);
        sell(x, 0, 59);
        Edge.is(x.mayRead(0), 1);
        Edge.is(x.say(4, 0, 0), 59);
        Edge.is(x.mayRead(0), 0);
        Edge.is(x.say(4, 0, 0), -3);
        x.rests(240, 30);
        sell(x, 0, 179);
        Edge.is(x.mayRead(0), 1);
        Edge.is(x.say(4, 0, 0), 239);
        Edge.is(x.say(4, 0, 0), -3);
        x.rests(1, 1);
        Edge.is(x.mayRead(0), 0);
        x.pass(1);
        Edge.is(x.say(4, 0, 0), 241);
        Edge.is(x.mayRead(0), 0);
    }

    private static void restMinutes() {
        EarPaper x = new EarPaper();
        x.reader(50);
        sell(x, 0, 60);
        x.pass(29);
        Edge.is(x.mayRead(0), 0);
        x.pass(1);
        Edge.is(x.mayRead(0), 1);
        x.rests(60, 240);
        Edge.is(x.mayRead(0), 0);
        x.pass(209);
        Edge.is(x.mayRead(0), 0);
        x.pass(1);
        Edge.is(x.mayRead(0), 1);
        x.rests(1, 0);
        Edge.is(x.say(4, 0, 0), 300);
        Edge.is(x.mayRead(0), 1);
        Edge.is(x.say(4, 0, 0), 301);
        x.rests(1, 1);
        Edge.is(x.mayRead(0), 0);
    }

    private static void onEnd() {
        EarPaper x = new EarPaper();
        x.reader(50);
        x.reader(50);
        x.rests(3, 2);
        sell(x, 0, 2);
        sell(x, 1, 1);
        sell(x, 0, 2);
        Edge.is(x.mayRead(0), 1);
        x.stage(9);
        sell(x, 0, 2);
        x.pass(1);
        sell(x, 0, 2);
        Edge.is(x.mayRead(0), 1);
        sell(x, 0, 1);
        Edge.is(x.count(0), 12);
        Edge.is(x.mayRead(0), 0);
        Edge.is(x.mayRead(1), 1);
        x.rests(4, 2);
        Edge.is(x.mayRead(0), 1);
        x.rests(2, 2);
        Edge.is(x.mayRead(0), 0);
        x.pass(1);
        Edge.is(x.mayRead(0), 0);
        x.rests(2, 1);
        Edge.is(x.mayRead(0), 1);
        x.rests(2, 2);
        x.pass(1);
        Edge.is(x.mayRead(0), 1);
    }

    /** Minutes 0 to 6, each of the kind that is its number. */
    private static EarPaper kinds() {
        EarPaper x = new EarPaper();
        x.reader(50);
        x.say(0, 0, -1);
        x.say(1, 0, 0);
        x.say(2, 0, 0);
        x.stage(50);
        x.say(4, 0, 0);
        x.say(5, 0, 0);
        x.pass(1);
        for (int kind = 0; kind <= 6; kind++) {
            Edge.is(x.minuteOf(kind, 0), kind);
        }
        return x;
    }

    private static void again() {
        EarPaper x = kinds();
        int[] due = {7, -3, -3, 8, -3, 9, -3};
        for (int of = 0; of <= 6; of++) {
            Edge.is(x.say(1, 0, of), due[of]);
        }
        Edge.is(x.minuteOf(9, 0), 1);
        Edge.is(x.minuteOf(9, 3), 5);
    }

    private static void right() {
        EarPaper x = kinds();
        int[] due = {7, -3, -3, -3, -3, -3, -3};
        for (int of = 0; of <= 6; of++) {
            Edge.is(x.say(5, 0, of), due[of]);
        }
        Edge.is(x.minuteOf(7, 0), 5);
        Edge.is(x.minuteOf(7, 3), 0);
    }

    private static void readBy() {
        EarPaper x = kinds();
        int[] due = {0, 0, 0, -9, 0, 0, -9};
        for (int kind = 0; kind <= 6; kind++) {
            Edge.is(x.minuteOf(kind, 1), due[kind]);
        }
    }

    private static void stageVoice() {
        EarPaper x = new EarPaper();
        x.home(0, 1, 1, 0);
        x.stage(9);
        x.stage(10);
        x.stage(999);
        int[] voices = {9, 10, 999};
        int[] heard = {0, 2, 2};
        for (int minute = 0; minute < 3; minute++) {
            Edge.is(x.minuteOf(minute, 2), voices[minute]);
            Edge.is(x.heard(minute, 0), heard[minute]);
        }
    }

    private static void saidNow() {
        EarPaper x = new EarPaper();
        x.reader(50);
        x.pass(9997);
        Edge.is(x.say(4, 0, 0), 9997);
        Edge.is(x.count(0), 9998);
        Edge.is(x.stage(5), 9998);
        Edge.is(x.count(0), 9999);
        Edge.is(x.say(4, 0, 0), -6);
        Edge.is(x.stage(5), -6);
        Edge.is(x.count(0), 9999);
    }

    private static void dead() {
        EarPaper x = new EarPaper();
        x.stage(5);
        x.pass(2);
        x.stage(5);
        int[] due = {3, 6, 6, 3};
        for (int minute = 0; minute < due.length; minute++) {
            Edge.is(x.minuteOf(minute, 0), due[minute]);
        }
        Edge.is(x.count(8), 2);
        Edge.is(x.minuteOf(4, 0), -1);
    }

    // ---- promises 11 to 15 ----

    private static void reader() {
        EarPaper x = new EarPaper();
        Edge.is(x.reader(1), 0);
        Edge.is(x.reader(999), 1);
        Edge.is(x.count(3), 2);
    }

    private static void readerRefused() {
        Refused.with(-4, Scene.DAY, x -> x.reader(0));
        Refused.with(-4, Scene.DAY, x -> x.reader(Integer.MIN_VALUE));
        Refused.with(-6, Scene.DAY, x -> x.reader(1000));
        Refused.with(-6, Scene.DAY, x -> x.reader(Integer.MAX_VALUE));
        Refused.with(-6, FULL, x -> x.reader(5));
        Refused.with(-4, FULL, x -> x.reader(0));
    }

    private static void rests() {
        EarPaper x = new EarPaper();
        Edge.is(x.rests(1, 0), 60030);
        Edge.is(x.rests(240, 240), 1000);
        Edge.is(x.rests(1, 240), 240240);
        Edge.is(x.rests(240, 0), 1240);
        Edge.is(x.rests(60, 30), 240000);
    }

    private static void restsRefused() {
        Refused.with(-4, Scene.DAY, x -> x.rests(0, 30));
        Refused.with(-4, Scene.DAY, x -> x.rests(60, -1));
        Refused.with(-4, Scene.DAY, x -> x.rests(0, 241));
        Refused.with(-4, Scene.DAY, x -> x.rests(241, -1));
        Refused.with(-4, Scene.DAY, x -> x.rests(Integer.MIN_VALUE, Integer.MAX_VALUE));
        Refused.with(-6, Scene.DAY, x -> x.rests(241, 30));
        Refused.with(-6, Scene.DAY, x -> x.rests(60, 241));
        Refused.with(-6, Scene.DAY, x -> x.rests(1, Integer.MAX_VALUE));
    }

    private static void mayRead() {
        EarPaper x = new EarPaper();
        x.reader(50);
        x.rests(2, 1);
        int[] may = {1, 1, 0, 1, 1, 0};
        for (int minute = 0; minute < may.length; minute++) {
            Edge.is(x.mayRead(0), may[minute]);
            if (may[minute] == 1) {
                x.say(4, 0, 0);
            } else {
                x.pass(1);
            }
        }
    }

    private static void mayReadRefused() {
        Refused.with(-1, Scene.BARE, x -> x.mayRead(0));
        Refused.with(-1, Scene.DAY, x -> x.mayRead(2));
        Refused.with(-1, Scene.DAY, x -> x.mayRead(-1));
        Refused.with(-1, FULL, x -> x.mayRead(8));
        Refused.with(-1, Scene.DAY, x -> x.mayRead(Integer.MIN_VALUE));
    }

    private static void say() {
        EarPaper x = new EarPaper();
        x.reader(50);
        x.news(true);
        int[][] said = {{0, -1, -9}, {0, 0, 0}, {1, 0, 0}, {2, -7, -9}, {4, 99, -9}, {5, 1, 1}, {1, 5, 5}, {2, 0, -9},
            {4, 0, -9}};
        for (int minute = 0; minute < said.length; minute++) {
            Edge.is(x.say(said[minute][0], 0, said[minute][1]), minute);
            Edge.is(x.minuteOf(minute, 0), said[minute][0]);
            Edge.is(x.minuteOf(minute, 3), said[minute][2]);
        }
    }

    private static void sayOfNobody() {
        int[] others = {-1, 3, 6, 7, Integer.MIN_VALUE, Integer.MAX_VALUE};
        for (int kind : others) {
            Refused.with(-2, Scene.DAY, x -> x.say(kind, 1, 0));
            Refused.with(-2, Scene.DAY, x -> x.say(kind, 2, 99));
        }
        Refused.with(-1, Scene.BARE, x -> x.say(0, 0, -1));
        int[] kinds = {0, 1, 2, 4, 5};
        for (int kind : kinds) {
            Refused.with(-1, Scene.DAY, x -> x.say(kind, 2, 0));
            Refused.with(-1, Scene.DAY, x -> x.say(kind, -1, 0));
        }
        Refused.with(-1, Scene.DAY, x -> x.say(0, 1, 3));
        Refused.with(-1, Scene.DAY, x -> x.say(0, 1, -2));
        for (int kind = 1; kind <= 5; kind += 4) {
            int it = kind;
            Refused.with(-1, Scene.DAY, x -> x.say(it, 1, 12));
            Refused.with(-1, Scene.DAY, x -> x.say(it, 1, -1));
            // He who rests, too: what is not there is told first.
            Refused.with(-1, Scene.DAY, x -> x.say(it, 0, 12));
            Refused.with(-1, LATE, x -> x.say(it, 0, 9999));
        }
        Refused.with(-1, Scene.DAY, x -> x.say(0, 0, 3));
        Refused.with(-1, LATE, x -> x.say(4, 2, 0));
    }

    private static void sayState() {
        int[][] said = {{0, -1}, {0, 0}, {1, 0}, {2, 0}, {4, 0}, {5, 0}};
        for (int[] one : said) {
            Refused.with(-3, Scene.DAY, x -> x.say(one[0], 0, one[1]));
        }
        int[] again = {3, 5, 6, 7};
        for (int of : again) {
            Refused.with(-3, Scene.DAY, x -> x.say(1, 1, of));
        }
        int[] right = {2, 3, 4, 5, 6, 7};
        for (int of : right) {
            Refused.with(-3, Scene.DAY, x -> x.say(5, 1, of));
        }
        Refused.with(-3, Scene.DAY.andThen(x -> x.pass(4)), x -> x.say(2, 0, 0));
        Refused.with(-3, LATE, x -> x.say(4, 0, 0));
        Refused.with(-3, LATE.andThen(x -> x.rests(1, 0)), x -> x.say(1, 1, 9998));
        Refused.with(-3, LATE.andThen(x -> x.rests(1, 0)), x -> x.say(5, 1, 9998));
        Refused.with(-3, LATE_ALARM, x -> x.say(2, 2, 0));
        EarPaper x = new EarPaper();
        Scene.DAY.accept(x);
        Edge.is(x.say(2, 1, 0), 12);
        x.pass(3);
        Edge.is(x.say(2, 0, 0), -3);
        Edge.is(x.say(4, 0, 0), 16);
    }

    private static void sayRoom() {
        Consumer<EarPaper> end = LATE.andThen(x -> x.rests(1, 0));
        Refused.with(-6, end, x -> x.say(0, 0, -1));
        Refused.with(-6, end, x -> x.say(1, 1, 9997));
        Refused.with(-6, end, x -> x.say(2, 1, 0));
        Refused.with(-6, end, x -> x.say(4, 1, 0));
        Refused.with(-6, end, x -> x.say(5, 1, 9997));
        EarPaper x = new EarPaper();
        x.reader(50);
        x.pass(9998);
        Edge.is(x.say(4, 0, 0), 9998);
    }

    private static void stage() {
        EarPaper x = new EarPaper();
        Edge.is(x.stage(1), 0);
        Edge.is(x.stage(999), 1);
        x.pass(9996);
        Edge.is(x.stage(5), 9998);
        Edge.is(x.count(0), 9999);
    }

    private static void stageRefused() {
        Refused.with(-4, Scene.DAY, x -> x.stage(0));
        Refused.with(-4, Scene.DAY, x -> x.stage(Integer.MIN_VALUE));
        Refused.with(-6, Scene.DAY, x -> x.stage(1000));
        Refused.with(-6, Scene.DAY, x -> x.stage(Integer.MAX_VALUE));
        Refused.with(-6, Scene.END, x -> x.stage(5));
        Refused.with(-4, Scene.END, x -> x.stage(0));
    }
}
