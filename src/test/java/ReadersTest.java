/** Promises 11 to 15: reader, rests, mayRead, say, stage. */
public final class ReadersTest {
    public static void main(String[] args) {
        reader();
        rests();
        mayRead();
        restsAsNow();
        otherMinutesEndARun();
        sayRefused();
        sayOf();
        sayAtTheEnd();
        alarm();
        stage();
        Due.end();
    }

    private static void reader() {
        EarPaper x = new EarPaper();
        Due.is(11, x.reader(0), -4);
        Due.is(11, x.reader(1000), -6);
        Due.is(11, x.count(3), 0);
        for (int i = 0; i < 8; i++) {
            Due.is(11, x.reader(i == 0 ? 1 : 999), i);
        }
        Due.is(11, x.reader(5), -6);
        Due.is(11, x.reader(0), -4);
        Due.is(11, x.count(3), 8);
        x.say(0, 0, -1);
        x.say(0, 7, -1);
        Due.is(11, x.minuteOf(0, 2), 1);
        Due.is(11, x.minuteOf(1, 2), 999);
    }

    private static void rests() {
        EarPaper x = new EarPaper();
        Due.is(12, x.rests(0, 241), -4);
        Due.is(12, x.rests(241, -1), -4);
        Due.is(12, x.rests(241, 0), -6);
        Due.is(12, x.rests(1, 241), -6);
        Due.is(12, x.rests(240, 240), 60030);
        Due.is(12, x.rests(1, 0), 240240);
        Due.is(12, x.rests(1, 0), 1000);
    }

    private static void mayRead() {
        EarPaper x = new EarPaper();
        Due.is(13, x.mayRead(0), -1);
        Due.is(13, x.mayRead(-1), -1);
        x.reader(9);
        for (int minute = 0; minute < 60; minute++) {
            Due.is(13, x.mayRead(0), 1);
            Due.is(13, x.say(4, 0, 0), minute);
        }
        Due.is(13, x.mayRead(0), 0);
        Due.is(13, x.pass(29), 89);
        Due.is(13, x.mayRead(0), 0);
        Due.is(13, x.pass(1), 90);
        Due.is(13, x.mayRead(0), 1);
        Due.is(13, x.say(4, 0, 0), 90);
        Due.is(13, x.mayRead(0), 1);
    }

    private static void restsAsNow() {
        EarPaper x = new EarPaper();
        x.reader(9);
        x.say(4, 0, 0);
        x.say(4, 0, 0);
        x.say(4, 0, 0);
        x.rests(4, 9);
        Due.is(13, x.mayRead(0), 1);
        x.rests(3, 9);
        Due.is(13, x.mayRead(0), 0);
        x.rests(2, 9);
        Due.is(13, x.mayRead(0), 0);
        x.rests(2, 0);
        Due.is(13, x.mayRead(0), 1);
        x.pass(2);
        x.rests(2, 2);
        Due.is(13, x.mayRead(0), 1);
        x.rests(2, 3);
        Due.is(13, x.mayRead(0), 0);
    }

    private static void otherMinutesEndARun() {
        EarPaper x = new EarPaper();
        x.reader(9);
        x.reader(9);
        x.rests(3, 5);
        x.say(0, 0, -1);
        x.say(2, 0, 0);
        x.stage(9);
        x.say(0, 0, -1);
        x.say(1, 0, 0);
        x.say(4, 1, 0);
        x.say(4, 0, 0);
        x.say(5, 0, 0);
        x.pass(1);
        x.say(0, 0, -1);
        x.say(1, 0, 0);
        Due.is(13, x.mayRead(0), 1);
        Due.is(14, x.say(2, 0, 0), 11);
        Due.is(13, x.mayRead(0), 0);
        Due.is(14, x.say(0, 0, -1), -3);
        Due.is(13, x.mayRead(1), 1);
    }

    private static void sayRefused() {
        EarPaper x = new EarPaper();
        x.reader(9);
        x.news(true);
        Due.is(14, x.say(3, 1, 0), -2);
        Due.is(14, x.say(6, 0, 0), -2);
        Due.is(14, x.say(-1, 0, 0), -2);
        Due.is(14, x.say(4, 1, 0), -1);
        Due.is(14, x.say(4, -1, 0), -1);
        Due.is(14, x.say(0, 0, 1), -1);
        Due.is(14, x.say(0, 0, -2), -1);
        Due.is(14, x.say(1, 0, 0), -1);
        Due.is(14, x.say(1, 0, -1), -1);
        Due.is(14, x.say(5, 0, 0), -1);
        Due.is(14, x.count(0), 0);
        x.rests(1, 9);
        x.say(4, 0, 77);
        Due.is(14, x.say(4, 0, 0), -3);
        Due.is(14, x.say(1, 0, 1), -1);
        Due.is(14, x.say(0, 0, 1), -1);
        Due.is(14, x.say(7, 0, 0), -2);
        Due.is(14, x.count(0), 1);
        Due.is(14, x.count(11), 9);
        Due.is(14, x.count(12), 4);
        Due.is(14, x.count(13), 1);
    }

    private static void sayOf() {
        EarPaper x = new EarPaper();
        x.reader(9);
        x.say(0, 0, -1);
        x.say(1, 0, 0);
        x.say(2, 0, -5);
        x.stage(8);
        x.say(4, 0, 99);
        x.say(5, 0, 0);
        x.pass(1);
        boolean[] again = {true, false, false, true, false, true, false};
        for (int of = 0; of < 7; of++) {
            int now = x.count(0);
            Due.is(14, x.say(1, 0, of), again[of] ? now : -3);
            now = x.count(0);
            Due.is(14, x.say(5, 0, of), of == 0 ? now : -3);
        }
        Due.is(14, x.say(1, 0, x.count(0)), -1);
        Due.is(14, x.count(18), 1);
    }

    private static void sayAtTheEnd() {
        EarPaper x = new EarPaper();
        x.reader(9);
        x.pass(9998);
        Due.is(14, x.say(0, 0, -1), 9998);
        Due.is(14, x.say(0, 0, -1), -6);
        Due.is(14, x.say(0, 0, 3), -1);
        Due.is(14, x.say(1, 0, 0), -3);
        Due.is(14, x.say(1, 0, 9998), -6);
        Due.is(15, x.stage(9), -6);
        Due.is(15, x.stage(0), -4);
        Due.is(14, x.count(0), 9999);
        Due.is(14, x.mayRead(0), 1);
    }

    private static void alarm() {
        EarPaper x = new EarPaper();
        x.reader(9);
        x.reader(12);
        x.home(0, 1, 1, 1);
        Due.is(14, breakBy(x, "k*1000+v"), 1);
        Due.is(14, x.say(2, 0, 0), 0);
        breakBy(x, "(v>9)");
        Due.is(14, x.say(2, 0, 0), -3);
        Due.is(14, x.say(2, 1, 0), 1);
        Due.is(14, x.say(4, 0, 0), 2);
        breakBy(x, "0-1");
        Due.is(14, x.say(2, 1, 0), -3);
        breakBy(x, "s+m+a");
        Due.is(14, x.say(2, 1, 0), -3);
        breakBy(x, "(k=2)*(w=3)*(n=1)*(h=1)");
        Due.is(14, x.say(2, 1, 0), -3);
        x.weather(3);
        Due.is(14, x.say(2, 1, 0), -3);
        x.pass(57);
        Due.is(14, x.say(2, 1, 0), 60);
        Due.feed(x, "0");
        x.term(3, 62);
        Due.is(14, x.say(2, 1, 0), 61);
        Due.is(14, x.say(2, 1, 0), -3);
        Due.is(14, x.say(2, 2, 0), -1);
        Due.is(14, x.say(0, 1, -1), 62);
        x.pass(9999 - 63);
        Due.is(14, x.say(2, 1, 0), -3);
        breakBy(x, "1");
        Due.is(14, x.say(2, 1, 0), -6);
    }

    private static int breakBy(EarPaper x, String text) {
        Due.feed(x, text);
        return x.term(3, x.count(0));
    }

    private static void stage() {
        EarPaper x = new EarPaper();
        Due.is(15, x.stage(0), -4);
        Due.is(15, x.stage(1000), -6);
        Due.is(15, x.stage(1), 0);
        Due.is(15, x.stage(999), 1);
        Due.is(15, x.minuteOf(0, 0), 3);
        Due.is(15, x.minuteOf(0, 1), -9);
        Due.is(15, x.minuteOf(1, 2), 999);
        Due.is(15, x.minuteOf(1, 3), -9);
        Due.is(15, x.count(0), 2);
        Due.is(15, x.count(8), 0);
    }
}
