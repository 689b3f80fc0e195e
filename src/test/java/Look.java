import java.util.ArrayList;
import java.util.List;

/** All that calls can tell of a paper, each with its answer; the paper is of no use behind it. */
final class Look {
    static final int COUNTS = 19;
    private static final int SHOWN = 4;
    private final EarPaper x;
    private final List<String> told = new ArrayList<>();

    private Look(EarPaper x) {
        this.x = x;
    }

    static List<String> at(EarPaper x) {
        Look look = new Look(x);
        look.counts();
        look.minutes();
        look.net();
        look.rest();
        look.whatWas();
        look.numbers();
        look.whatComes();
        return look.told;
    }

    private void add(String call, long answer) {
        told.add(call + " " + answer);
    }

    private int some(int what) {
        return Math.min(SHOWN, x.count(what));
    }

    private void counts() {
        for (int what = 0; what < COUNTS; what++) {
            add("count " + what, x.count(what));
        }
    }

    private void minutes() {
        int homes = some(2);
        int now = x.count(0);
        for (int minute = 0; minute < now && minute < 12; minute++) {
            for (int what = 0; what < 7; what++) {
                add("minuteOf " + minute + " " + what, x.minuteOf(minute, what));
            }
            for (int home = 0; home < homes; home++) {
                add("heard " + minute + " " + home, x.heard(minute, home));
            }
            add("worth 2 " + minute, x.worth(2, minute));
            add("lag " + minute, x.lag(minute));
            add("fresh " + minute, x.fresh(minute));
        }
        add("account", x.account(0, now - 1));
        add("covers", x.covers(0, 3, 200));
        add("rights", x.rights(0, 7, 200));
    }

    private void net() {
        int homes = some(2);
        for (int node = 0; node < some(1); node++) {
            add("loud " + node, x.loud(node, 90));
            add("boost " + node, x.boost(node, 1));
        }
        for (int home = 0; home < homes; home++) {
            add("hears " + home, x.hears(home, 30));
        }
        for (int what = 0; what < 3; what++) {
            add("breaks " + what, x.breaks(what));
        }
        add("boosts 31", x.boosts(31));
        add("boosts 45", x.boosts(45));
        for (int home = 0; home < homes; home++) {
            add("complain " + home, x.complain(home, true));
        }
    }

    private void rest() {
        int readers = some(3);
        int[][] ways = {{3, 4}, {1, 240}, {2, 3}, {4, 2}};
        for (int[] way : ways) {
            for (int reader = 0; reader < readers; reader++) {
                add("mayRead " + reader, x.mayRead(reader));
            }
            add("rests", x.rests(way[0], way[1]));
        }
    }

    private void whatWas() {
        add("weather", x.weather(0));
        add("least", x.least(5));
        for (int news = 0; news < SHOWN; news++) {
            add("printed " + news, x.printed(news, 9999));
        }
        for (int node = 0; node < SHOWN; node++) {
            add("could " + node, x.could(node, 30));
        }
        add("boosts 40", x.boosts(40));
        add("sold 0 2", x.sold(0, 2));
        add("sold 0 3", x.sold(0, 3));
        add("check", x.check(0));
        add("judge", x.judge());
    }

    private void numbers() {
        add("term", x.term(0, x.count(0)));
        add("node", x.node(0, 9));
        add("home", x.home(0, 1, 1, 1));
        add("reader", x.reader(77));
        add("news", x.news(true));
        add("advert", x.advert(9));
        add("cut", x.cut(1, 9999, 9999));
    }

    private void whatComes() {
        for (int turn = 0; turn < 3; turn++) {
            int minute = x.stage(100 + turn);
            add("stage", minute);
            add("worth 0", x.worth(0, minute));
            for (int node = 0; node < SHOWN; node++) {
                add("loud then " + node, x.loud(node, 90));
            }
        }
    }
}
