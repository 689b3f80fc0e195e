/** Promises 8 to 10, 16 and 17: home, least, hears, minuteOf, heard. */
public final class HomesTest {
    private static final int ALL = 16777215;

    public static void main(String[] args) {
        home();
        least();
        hears();
        minuteOf();
        who();
        whoAsNow();
        hours();
        heard();
        Due.end();
    }

    private static void home() {
        EarPaper x = new EarPaper();
        Due.is(8, x.home(1, 0, -1, -1), -1);
        Due.is(8, x.home(-1, 1, 0, 0), -1);
        Due.is(8, x.home(0, 0, ALL + 1, 0), -4);
        Due.is(8, x.home(0, 10, -1, 0), -4);
        Due.is(8, x.home(0, 1, 0, -1), -4);
        Due.is(8, x.home(0, 10, 0, 0), -6);
        Due.is(8, x.home(0, 1, ALL + 1, 0), -6);
        Due.is(8, x.home(0, 1, 0, ALL + 1), -6);
        Due.is(8, x.count(2), 0);
        for (int i = 0; i < 40; i++) {
            Due.is(8, x.home(0, i % 9 + 1, ALL, ALL), i);
        }
        Due.is(8, x.home(0, 1, 0, 0), -6);
        Due.is(8, x.home(0, 0, 0, 0), -4);
        Due.is(8, x.count(2), 40);
        Due.is(8, x.count(11), 2);
        Due.is(8, x.count(14), 4);
        Due.is(8, x.count(16), 4);
    }

    private static void least() {
        EarPaper x = new EarPaper();
        x.home(0, 1, 0, 0);
        Due.is(9, x.least(0), -4);
        Due.is(9, x.least(100), -6);
        Due.is(9, x.hears(0, 9), 0);
        Due.is(9, x.hears(0, 10), 1);
        Due.is(9, x.least(1), 10);
        Due.is(9, x.hears(0, 1), 1);
        Due.is(9, x.least(99), 1);
        Due.is(9, x.hears(0, 98), 0);
        Due.is(9, x.hears(0, 99), 1);
        Due.is(9, x.least(50), 99);
    }

    private static void hears() {
        EarPaper x = new EarPaper();
        x.node(0, 10);
        x.home(1, 3, 0, 0);
        x.home(0, 9, 0, 0);
        Due.is(10, x.hears(2, 0), -1);
        Due.is(10, x.hears(-1, 5), -1);
        Due.is(10, x.hears(0, 0), -4);
        Due.is(10, x.hears(0, 1000), -6);
        Due.is(10, x.hears(0, 39), 0);
        Due.is(10, x.hears(0, 40), 1);
        Due.is(10, x.hears(1, 89), 0);
        Due.is(10, x.hears(1, 90), 1);
        x.boost(1, 9);
        Due.is(10, x.hears(0, 30), 0);
        Due.is(10, x.hears(0, 31), 1);
        x.weather(10);
        Due.is(10, x.hears(0, 40), 0);
        Due.is(10, x.hears(0, 41), 1);
        x.cut(1, 0, 0);
        Due.is(10, x.hears(0, 999), 0);
        x.pass(1);
        Due.is(10, x.hears(0, 41), 1);
    }

    private static void minuteOf() {
        EarPaper x = new EarPaper();
        x.reader(33);
        x.reader(44);
        x.news(true);
        x.news(false);
        x.weather(7);
        x.say(0, 1, 1);
        x.say(0, 0, -1);
        x.stage(55);
        x.say(1, 1, 2);
        x.say(2, 0, 1);
        x.weather(2);
        x.say(4, 1, 0);
        x.say(5, 0, 1);
        x.pass(2);
        int[][] due = {
            {0, 1, 44, 1, 0, 0, 7},
            {0, 0, 33, -9, 0, 0, 7},
            {3, -9, 55, -9, 0, 0, 7},
            {1, 1, 44, 2, 0, 0, 7},
            {2, 0, 33, -9, 0, 0, 7},
            {4, 1, 44, -9, 0, 0, 2},
            {5, 0, 33, 1, 0, 0, 2},
            {6, -9, 0, -9, 0, 0, 2},
            {6, -9, 0, -9, 0, 0, 2},
        };
        for (int minute = 0; minute < due.length; minute++) {
            for (int what = 0; what < 7; what++) {
                Due.is(16, x.minuteOf(minute, what), due[minute][what]);
            }
        }
        Due.is(16, x.minuteOf(9, 0), -1);
        Due.is(16, x.minuteOf(9, 7), -1);
        Due.is(16, x.minuteOf(-1, 0), -1);
        Due.is(16, x.minuteOf(8, 7), -2);
        Due.is(16, x.minuteOf(8, -1), -2);
        Due.is(16, x.count(11), 3);
        Due.is(16, x.count(12), 2);
    }

    private static void who() {
        EarPaper x = new EarPaper();
        x.node(0, 50);
        x.reader(60);
        x.home(0, 1, 1, 0);
        x.home(0, 1, 0, 1);
        x.home(0, 1, 1, 1);
        x.home(0, 1, 2, 2);
        x.home(1, 2, 1, 1);
        x.say(0, 0, -1);
        x.say(2, 0, 0);
        x.stage(70);
        x.stage(9);
        x.pass(1);
        int[] sure = {2, 4, 3, 0, 0};
        int[] most = {3, 4, 4, 0, 0};
        int[][] heard = {{2, 1, 2, 0, 0}, {2, 2, 2, 2, 0}, {2, 1, 2, 0, 2}, {0, 0, 0, 0, 0}, {0, 0, 0, 0, 0}};
        for (int minute = 0; minute < 5; minute++) {
            Due.is(16, x.minuteOf(minute, 4), sure[minute]);
            Due.is(16, x.minuteOf(minute, 5), most[minute]);
            for (int home = 0; home < 5; home++) {
                Due.is(17, x.heard(minute, home), heard[minute][home]);
            }
        }
    }

    /** Weather and cuts are as they were; boosts, homes and the least are as they are now. */
    private static void whoAsNow() {
        EarPaper x = new EarPaper();
        x.node(0, 20);
        x.home(1, 1, 1, 0);
        x.weather(5);
        x.stage(39);
        x.weather(0);
        Due.is(17, x.heard(0, 0), 0);
        x.stage(39);
        Due.is(17, x.heard(1, 0), 2);
        x.cut(1, 2, 2);
        x.stage(39);
        Due.is(17, x.heard(2, 0), 0);
        x.cut(1, 3, 9999);
        Due.is(17, x.heard(1, 0), 2);
        x.boost(1, 1);
        Due.is(17, x.heard(0, 0), 2);
        Due.is(17, x.heard(2, 0), 0);
        x.least(11);
        Due.is(17, x.heard(0, 0), 0);
        Due.is(17, x.heard(1, 0), 2);
        x.least(10);
        Due.is(16, x.minuteOf(0, 5), 1);
        x.home(0, 3, 0, 1);
        Due.is(16, x.minuteOf(0, 5), 2);
        Due.is(16, x.minuteOf(0, 4), 1);
        Due.is(16, x.minuteOf(2, 5), 1);
        x.node(0, 9);
        x.home(2, 1, 1, 0);
        Due.is(16, x.minuteOf(2, 4), 1);
    }

    private static void hours() {
        EarPaper x = new EarPaper();
        x.home(0, 1, 1, 0);
        x.home(0, 1, 2, 0);
        x.home(0, 1, 0, 1 << 23);
        int[] minutes = {59, 60, 119, 120, 1379, 1380, 1439, 1440, 2879, 2880};
        int[][] due = {{2, 0, 0}, {0, 2, 0}, {0, 2, 0}, {0, 0, 0}, {0, 0, 0}, {0, 0, 1}, {0, 0, 1}, {2, 0, 0},
            {0, 0, 1}, {2, 0, 0}};
        int now = 0;
        for (int i = 0; i < minutes.length; i++) {
            if (minutes[i] > now) {
                x.pass(minutes[i] - now);
            }
            Due.is(17, x.stage(10), minutes[i]);
            now = minutes[i] + 1;
            for (int home = 0; home < 3; home++) {
                Due.is(17, x.heard(minutes[i], home), due[i][home]);
            }
        }
    }

    private static void heard() {
        EarPaper x = new EarPaper();
        x.stage(50);
        Due.is(17, x.heard(0, 0), -1);
        x.home(0, 1, 0, 0);
        Due.is(17, x.heard(0, 0), 0);
        Due.is(17, x.heard(1, 0), -1);
        Due.is(17, x.heard(-1, 0), -1);
        Due.is(17, x.heard(0, 1), -1);
        Due.is(17, x.heard(0, -1), -1);
        Due.is(17, x.count(11), 5);
    }
}
