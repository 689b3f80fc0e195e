/** Promises 28 to 31: news, printed, lag, fresh. */
public final class NewsTest {
    public static void main(String[] args) {
        news();
        printed();
        lag();
        fresh();
        Due.end();
    }

    private static void news() {
        EarPaper x = new EarPaper();
        for (int i = 0; i < 40; i++) {
            Due.is(28, x.news(i % 2 == 0), i);
        }
        Due.is(28, x.news(true), -6);
        Due.is(28, x.news(false), -6);
        Due.is(28, x.count(6), 40);
        Due.is(28, x.count(16), 2);
    }

    private static void printed() {
        EarPaper x = new EarPaper();
        x.pass(5);
        Due.is(29, x.printed(0, 0), -1);
        x.news(true);
        x.news(false);
        Due.is(29, x.printed(2, 5), -1);
        Due.is(29, x.printed(-1, 5), -1);
        Due.is(29, x.printed(0, 4), -4);
        Due.is(29, x.printed(0, 10000), -6);
        Due.is(29, x.printed(0, 5), 1);
        Due.is(29, x.printed(0, 4), -3);
        Due.is(29, x.printed(0, 10000), -3);
        Due.is(29, x.printed(1, 9999), 1);
        Due.is(29, x.printed(1, 9999), -3);
        Due.is(29, x.count(11), 3);
        Due.is(29, x.count(13), 3);
    }

    private static void lag() {
        EarPaper x = new EarPaper();
        x.reader(9);
        Due.is(30, x.lag(0), -1);
        Due.is(30, x.lag(-1), -1);
        x.pass(2);
        x.news(true);
        x.pass(3);
        x.news(false);
        x.say(0, 0, 0);
        x.say(0, 0, 1);
        x.say(0, 0, 0);
        x.say(0, 0, -1);
        x.say(1, 0, 5);
        x.say(5, 0, 5);
        x.stage(9);
        Due.is(30, x.lag(0), -3);
        Due.is(30, x.lag(5), 3);
        Due.is(30, x.lag(6), 1);
        Due.is(30, x.lag(7), 5);
        Due.is(30, x.lag(8), -9);
        Due.is(30, x.lag(9), -3);
        Due.is(30, x.lag(10), -3);
        Due.is(30, x.lag(11), -3);
        Due.is(30, x.lag(12), -1);
        Due.is(30, x.count(11), 3);
        Due.is(30, x.count(13), 4);
    }

    private static void fresh() {
        EarPaper x = new EarPaper();
        x.reader(9);
        for (int i = 0; i < 5; i++) {
            x.news(true);
        }
        x.printed(1, 1);
        x.printed(2, 1);
        x.printed(3, 4);
        x.say(0, 0, 0);
        x.say(0, 0, 1);
        x.say(0, 0, 2);
        x.say(0, 0, 3);
        x.say(0, 0, 3);
        x.say(0, 0, 0);
        x.say(0, 0, -1);
        x.say(1, 0, 0);
        x.say(0, 0, 4);
        int[] due = {1, 0, 0, 1, 0, 0, -9, -3, 1, -1};
        for (int minute = 0; minute < due.length; minute++) {
            Due.is(31, x.fresh(minute), due[minute]);
        }
        Due.is(31, x.fresh(-1), -1);
        x.printed(0, 9);
        x.printed(4, 9);
        Due.is(31, x.fresh(0), 1);
        Due.is(31, x.fresh(8), 1);
        Due.is(31, x.count(11), 2);
        Due.is(31, x.count(13), 1);
    }
}
