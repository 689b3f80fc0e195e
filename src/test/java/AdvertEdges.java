import java.util.function.Consumer;

/** Edges of the adverts and the log in terms V, and of promises 32 to 37. */
final class AdvertEdges {
    private static final Consumer<EarPaper> FULL_ADVERTS = x -> {
        for (int i = 0; i < 200; i++) {
            x.advert(i % 10);
        }
    };
    private static final Consumer<EarPaper> FULL_ROW = x -> {
        for (int i = 0; i < 60; i++) {
            x.put(6);
        }
    };

    private AdvertEdges() {
    }

    static void all() {
        terms();
        Edge.of(32, "An ADVERT more: the SOLD MINUTE in which it stands (by how many SOLD ones there are ahead; 0 the "
            + "first).", AdvertEdges::advert);
        Edge.of(32, "-4; -6 (9; 200).", AdvertEdges::advertRefused);
        Edge.of(33, "The SORT in place 0 .. 4 of the i-th SOLD MINUTE (that went by or not); -9 none (such).",
            AdvertEdges::sold);
        Edge.of(33, "-4; -6 place.", AdvertEdges::soldRefused);
        Edge.of(34, "A number (-32768 .. 32767) more of the row: how many.", AdvertEdges::put);
        Edge.of(34, "-4; -6 (60, too).", AdvertEdges::putRefused);
        Edge.of(35, "The row, which has none then, is judged as ADVERTS of one MINUTE.", AdvertEdges::judge);
        Edge.of(36, "BEST of three SORTS a, b, c (all others than the others), numbers 100, 10 and 1 times how many.",
            AdvertEdges::order);
        Edge.of(36, "-4; -6; -3 not five, two are one.", AdvertEdges::orderRefused);
        Edge.of(37, "The row, which has none then, is checked as a LOG from a MINUTE on.", AdvertEdges::check);
        Edge.of(37, "-1 (also if it goes beyond what went by). (Refused: the row stays.)", AdvertEdges::checkRefused);
    }

    private static void terms() {
        int at = Document.TERMS;
        Edge.of(at, "ADVERTS of SOLD MINUTES: five places each:", AdvertEdges::fivePlaces);
        Edge.of(at, "SORTS 0 .. 9 are put one behind the other (200 in all) in SOLD MINUTES as these come:",
            AdvertEdges::asTheyCome);
        Edge.of(at, "an ORDER is FAIR, if no two alike stand one behind the other in one MINUTE.", AdvertEdges::fair);
        Edge.of(at, "A row of bytes is judged as the ADVERTS of one MINUTE: the first of five places that is no SORT, or as "
            + "the one ahead, or that lacks;", AdvertEdges::firstWrong);
        Edge.of(at, "5, if there are more; -9 FAIR.", AdvertEdges::more);
        Edge.of(at, "BEST of told numbers of three SORTS (0 .. 5 each, five together): the first FAIR order by SORTS (as a "
            + "number of five digits); -9 none.", AdvertEdges::best);
        Edge.of(at, "A LOG that is checked: a row of shorts: KINDS of MINUTES from one on: the first wrong; -9 none.",
            AdvertEdges::log);
    }

    private static EarPaper withRow(int... row) {
        EarPaper x = new EarPaper();
        put(x, row);
        return x;
    }

    private static void put(EarPaper x, int... row) {
        for (int one : row) {
            x.put(one);
        }
    }

    private static void judged(int due, int... row) {
        Edge.is(withRow(row).judge(), due);
    }

    // ---- terms V ----

    private static void fivePlaces() {
        EarPaper x = new EarPaper();
        for (int i = 0; i < 11; i++) {
            Edge.is(x.advert(i % 9), i / 5);
        }
        for (int place = 0; place < 5; place++) {
            Edge.is(x.sold(0, place), place);
            Edge.is(x.sold(1, place), (5 + place) % 9);
            Edge.is(x.sold(2, place), place == 0 ? 1 : -9);
            Edge.is(x.sold(3, place), -9);
        }
        Edge.is(x.sold(0, 5), -6);
    }

    private static void asTheyCome() {
        EarPaper x = new EarPaper();
        x.reader(50);
        for (int i = 0; i < 200; i++) {
            Edge.is(x.advert(i / 20), i / 5);
            if (i % 50 == 0) {
                x.say(4, 0, 0);
            }
        }
        Edge.is(x.advert(0), -6);
        Edge.is(x.advert(-1), -4);
        Edge.is(x.advert(10), -6);
        for (int i = 0; i < 200; i += 3) {
            Edge.is(x.sold(i / 5, i % 5), i / 20);
        }
        Edge.is(x.count(18), 4);
        Edge.is(x.count(7), 200);
    }

    private static void fair() {
        judged(-9, 0, 1, 0, 1, 0);
        judged(-9, 9, 8, 7, 8, 9);
        judged(1, 3, 3, 1, 2, 1);
        judged(2, 3, 1, 1, 2, 1);
        judged(3, 3, 1, 2, 2, 1);
        judged(4, 3, 1, 2, 1, 1);
        EarPaper x = new EarPaper();
        Edge.is(x.advert(3), 0);
        Edge.is(x.advert(3), 0);
        Edge.is(x.sold(0, 1), 3);
    }

    private static void firstWrong() {
        judged(0);
        judged(1, 0);
        judged(2, 0, 9);
        judged(3, 0, 9, 0);
        judged(4, 0, 9, 0, 9);
        judged(0, -1, 1, 2, 3, 4);
        judged(0, 10, 1, 2, 3, 4);
        judged(1, 0, 10, 2, 3, 4);
        judged(4, 0, 1, 2, 3, -1);
        judged(4, 0, 1, 2, 3, 10);
        judged(1, 5, 5, 10, 5);
        judged(1, 5, 10, 10, 5);
        judged(0, 10, 10);
        judged(2, 5, 6, 10);
    }

    private static void more() {
        judged(-9, 1, 2, 3, 4, 5);
        judged(5, 1, 2, 3, 4, 5, 6);
        judged(5, 1, 2, 3, 4, 5, 5);
        judged(5, 1, 2, 3, 4, 5, -1);
        judged(5, 1, 2, 3, 4, 5, 6, 6, 6);
        judged(4, 1, 2, 3, 4, 4, 6);
        EarPaper x = withRow(1, 2, 3, 4, 5);
        for (int i = 5; i < 60; i++) {
            x.put(7);
        }
        Edge.is(x.judge(), 5);
        Edge.is(x.count(10), 0);
    }

    private static void best() {
        EarPaper x = new EarPaper();
        Edge.is(x.order(0, 1, 2, 311), 1020);
        Edge.is(x.order(0, 1, 2, 320), 1010);
        Edge.is(x.order(2, 1, 0, 311), 20212);
        Edge.is(x.order(9, 8, 7, 221), 78989);
        Edge.is(x.order(9, 8, 7, 131), 87898);
        Edge.is(x.order(1, 2, 3, 500), -9);
        Edge.is(x.order(1, 2, 3, 50), -9);
        Edge.is(x.order(1, 2, 3, 5), -9);
        Edge.is(x.order(1, 2, 3, 410), -9);
        Edge.is(x.order(1, 2, 3, 41), -9);
        Edge.is(x.order(1, 2, 3, 104), -9);
        Edge.is(x.order(1, 2, 3, 302), 13131);
        Edge.is(x.order(1, 2, 3, 23), 32323);
        Edge.is(x.order(1, 2, 3, 600), -6);
        Edge.is(x.order(1, 2, 3, 60), -6);
        Edge.is(x.order(1, 2, 3, 6), -6);
        Edge.is(x.order(1, 2, 3, 555), -3);
        Edge.is(x.order(1, 2, 3, 0), -3);
        Edge.is(x.order(1, 2, 3, 400), -3);
        Edge.is(x.order(1, 2, 3, 222), -3);
    }

    private static void log() {
        EarPaper x = new EarPaper();
        x.reader(50);
        x.say(0, 0, -1);
        x.say(1, 0, 0);
        x.say(2, 0, 0);
        x.stage(50);
        x.say(4, 0, 0);
        x.say(5, 0, 0);
        x.pass(2);
        put(x, 0, 1, 2, 3, 4, 5, 6, 6);
        Edge.is(x.check(0), -9);
        put(x, 5, 6);
        Edge.is(x.check(5), -9);
        put(x, 6);
        Edge.is(x.check(7), -9);
        put(x, 1, 1, 2);
        Edge.is(x.check(0), 0);
        put(x, 0, 1, 2, 3, 4, 5, 6, 0);
        Edge.is(x.check(0), 7);
        put(x, 5, 5, 5);
        Edge.is(x.check(5), 1);
        put(x, 32767);
        Edge.is(x.check(0), 0);
        put(x, 0, -32768);
        Edge.is(x.check(0), 1);
        Edge.is(x.check(0), -9);
    }

    // ---- promises 32 to 37 ----

    private static void advert() {
        EarPaper x = new EarPaper();
        x.reader(50);
        x.say(4, 0, 0);
        x.say(4, 0, 0);
        int[] sorts = {0, 9, 0, 9, 0, 0, 9};
        for (int i = 0; i < sorts.length; i++) {
            Edge.is(x.advert(sorts[i]), i / 5);
        }
        Edge.is(x.sold(1, 1), 9);
        Edge.is(x.count(18), 2);
    }

    private static void advertRefused() {
        Refused.with(-4, Scene.DAY, x -> x.advert(-1));
        Refused.with(-4, Scene.DAY, x -> x.advert(Integer.MIN_VALUE));
        Refused.with(-6, Scene.DAY, x -> x.advert(10));
        Refused.with(-6, Scene.DAY, x -> x.advert(Integer.MAX_VALUE));
        Refused.with(-6, FULL_ADVERTS, x -> x.advert(0));
        Refused.with(-6, FULL_ADVERTS, x -> x.advert(9));
        Refused.with(-4, FULL_ADVERTS, x -> x.advert(-1));
        EarPaper x = new EarPaper();
        for (int i = 0; i < 199; i++) {
            x.advert(0);
        }
        Edge.is(x.advert(9), 39);
        Edge.is(x.sold(39, 4), 9);
    }

    private static void sold() {
        EarPaper x = new EarPaper();
        FULL_ADVERTS.accept(x);
        Edge.is(x.sold(0, 0), 0);
        Edge.is(x.sold(0, 4), 4);
        Edge.is(x.sold(1, 0), 5);
        Edge.is(x.sold(39, 4), 9);
        Edge.is(x.sold(40, 0), -9);
        Edge.is(x.sold(-1, 0), -9);
        Edge.is(x.sold(-1, 4), -9);
        int[] others = {Integer.MAX_VALUE, Integer.MIN_VALUE, 858993459, 858993460, -858993459, 429496730};
        for (int i : others) {
            for (int place = 0; place < 5; place++) {
                Edge.is(x.sold(i, place), -9);
            }
        }
        for (int what = 11; what <= 16; what++) {
            Edge.is(x.count(what), 0);
        }
        EarPaper y = new EarPaper();
        Edge.is(y.sold(0, 0), -9);
        y.advert(7);
        Edge.is(y.sold(0, 0), 7);
        Edge.is(y.sold(0, 1), -9);
    }

    private static void soldRefused() {
        Refused.with(-4, Scene.DAY, x -> x.sold(0, -1));
        Refused.with(-4, Scene.DAY, x -> x.sold(-1, -1));
        Refused.with(-4, Scene.DAY, x -> x.sold(1, Integer.MIN_VALUE));
        Refused.with(-6, Scene.DAY, x -> x.sold(0, 5));
        Refused.with(-6, Scene.DAY, x -> x.sold(40, 5));
        Refused.with(-6, Scene.DAY, x -> x.sold(-1, Integer.MAX_VALUE));
    }

    private static void put() {
        EarPaper x = new EarPaper();
        Edge.is(x.put(-32768), 1);
        Edge.is(x.put(32767), 2);
        Edge.is(x.put(0), 3);
        Edge.is(x.count(10), 3);
        x.judge();
        Edge.is(x.put(-1), 1);
        for (int i = 2; i <= 60; i++) {
            Edge.is(x.put(1), i);
        }
    }

    private static void putRefused() {
        Refused.with(-4, Scene.DAY, x -> x.put(-32769));
        Refused.with(-4, Scene.DAY, x -> x.put(Integer.MIN_VALUE));
        Refused.with(-6, Scene.DAY, x -> x.put(32768));
        Refused.with(-6, Scene.DAY, x -> x.put(Integer.MAX_VALUE));
        Refused.with(-6, FULL_ROW, x -> x.put(0));
        Refused.with(-4, FULL_ROW, x -> x.put(-32769));
        Refused.with(-6, FULL_ROW.andThen(x -> x.pass(60)), x -> x.put(6));
    }

    private static void judge() {
        EarPaper x = new EarPaper();
        Edge.is(x.judge(), 0);
        put(x, 1, 2, 3, 4, 5);
        Edge.is(x.judge(), -9);
        Edge.is(x.count(10), 0);
        Edge.is(x.judge(), 0);
        FULL_ROW.accept(x);
        Edge.is(x.judge(), 1);
        Edge.is(x.put(1), 1);
        for (int what = 11; what <= 16; what++) {
            Edge.is(x.count(what), 0);
        }
    }

    private static void order() {
        EarPaper x = new EarPaper();
        Edge.is(x.order(0, 5, 9, 221), 5059);
        Edge.is(x.order(0, 5, 9, 212), 5909);
        Edge.is(x.order(9, 0, 5, 221), 5909);
        Edge.is(x.order(5, 9, 0, 221), 5959);
        Edge.is(x.order(3, 4, 5, 320), 34343);
        Edge.is(x.order(4, 3, 5, 230), 34343);
        Edge.is(x.order(5, 4, 3, 23), 34343);
    }

    private static void orderRefused() {
        Refused.with(-4, Scene.DAY, x -> x.order(-1, 2, 3, 311));
        Refused.with(-4, Scene.DAY, x -> x.order(1, -1, 3, 311));
        Refused.with(-4, Scene.DAY, x -> x.order(1, 2, -1, 311));
        Refused.with(-4, Scene.DAY, x -> x.order(1, 2, 3, -1));
        Refused.with(-4, Scene.DAY, x -> x.order(1, 2, 3, -311));
        Refused.with(-4, Scene.DAY, x -> x.order(10, 2, 3, -1));
        Refused.with(-4, Scene.DAY, x -> x.order(-1, -1, 3, 600));
        Refused.with(-4, Scene.DAY, x -> x.order(1, 1, 3, Integer.MIN_VALUE));
        Refused.with(-6, Scene.DAY, x -> x.order(10, 2, 3, 311));
        Refused.with(-6, Scene.DAY, x -> x.order(1, 10, 3, 311));
        Refused.with(-6, Scene.DAY, x -> x.order(1, 2, 10, 311));
        Refused.with(-6, Scene.DAY, x -> x.order(10, 10, 3, 0));
        Refused.with(-6, Scene.DAY, x -> x.order(1, 2, 3, 600));
        Refused.with(-6, Scene.DAY, x -> x.order(1, 2, 3, 1000));
        Refused.with(-6, Scene.DAY, x -> x.order(1, 2, 3, 60));
        Refused.with(-6, Scene.DAY, x -> x.order(1, 2, 3, 6));
        Refused.with(-6, Scene.DAY, x -> x.order(1, 1, 3, Integer.MAX_VALUE));
        Refused.with(-3, Scene.DAY, x -> x.order(1, 2, 3, 310));
        Refused.with(-3, Scene.DAY, x -> x.order(1, 2, 3, 312));
        Refused.with(-3, Scene.DAY, x -> x.order(1, 2, 3, 0));
        Refused.with(-3, Scene.DAY, x -> x.order(1, 2, 3, 555));
        Refused.with(-3, Scene.DAY, x -> x.order(1, 1, 3, 311));
        Refused.with(-3, Scene.DAY, x -> x.order(1, 2, 1, 311));
        Refused.with(-3, Scene.DAY, x -> x.order(1, 3, 3, 311));
        Refused.with(-3, Scene.DAY, x -> x.order(1, 3, 3, 500));
    }

    private static void check() {
        EarPaper x = new EarPaper();
        x.stage(50);
        x.pass(59);
        put(x, 3);
        Edge.is(x.check(0), -9);
        Edge.is(x.count(10), 0);
        put(x, 3);
        Edge.is(x.check(1), 0);
        Edge.is(x.count(10), 0);
        Edge.is(x.check(59), -9);
        FULL_ROW.accept(x);
        Edge.is(x.check(0), 0);
        x.pass(1);
        FULL_ROW.accept(x);
        Edge.is(x.check(1), -9);
        Edge.is(x.put(6), 1);
        Edge.is(x.check(60), -9);
    }

    private static void checkRefused() {
        Refused.with(-1, Scene.BARE, x -> x.check(0));
        Refused.with(-1, Scene.DAY, x -> x.check(12));
        Refused.with(-1, Scene.DAY, x -> x.check(-1));
        Refused.with(-1, Scene.DAY, x -> x.check(10));
        Refused.with(-1, Scene.DAY, x -> x.check(Integer.MAX_VALUE));
        Refused.with(-1, Scene.DAY, x -> x.check(Integer.MIN_VALUE));
        Refused.with(-1, FULL_ROW.andThen(x -> x.pass(59)), x -> x.check(0));
        EarPaper x = new EarPaper();
        x.pass(3);
        put(x, 6, 6, 6, 6);
        Edge.is(x.check(0), -1);
        Edge.is(x.count(10), 4);
        x.pass(1);
        Edge.is(x.check(1), -1);
        Edge.is(x.check(0), -9);
        Edge.is(x.check(4), -1);
        Edge.is(x.check(3), -9);
    }
}
