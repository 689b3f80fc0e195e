import java.util.function.Consumer;

/** What goes ahead of a call that is refused. */
final class Scene {
    static final Consumer<EarPaper> BARE = x -> { };
    /** Something of everything, at minute 12, and little enough to be looked at whole. */
    static final Consumer<EarPaper> DAY = Scene::day;
    /** The same in minute 9999. */
    static final Consumer<EarPaper> END = DAY.andThen(x -> x.pass(9999 - 12));

    private Scene() {
    }

    private static void day(EarPaper x) {
        net(x);
        terms(x);
        x.reader(60);
        x.reader(200);
        x.rests(3, 4);
        x.news(true);
        x.news(false);
        x.news(true);
        x.printed(1, 2);
        minutes(x);
        x.cut(2, 12, 13);
        x.cut(3, 14, 9999);
        x.could(1, 9);
        x.could(2, 20);
        x.complain(2, true);
        x.advert(3);
        x.advert(4);
        x.advert(3);
        Due.feed(x, "12*n");
        x.put(0);
        x.put(0);
        x.put(3);
    }

    private static void net(EarPaper x) {
        x.node(0, 10);
        x.node(1, 10);
        x.node(0, 5);
        x.boost(1, 3);
        x.home(0, 1, 1, 2);
        x.home(1, 1, 1, 0);
        x.home(2, 2, 0, 1);
        x.home(3, 1, 6, 1);
    }

    private static void terms(EarPaper x) {
        String[] texts = {"v/10+a", "s*9+m", "m-1", "(v>99)"};
        int[] from = {0, 2, 4, 12};
        for (int purpose = 0; purpose < 4; purpose++) {
            Due.feed(x, texts[purpose]);
            x.term(purpose, from[purpose]);
        }
    }

    /** The last three are of reader 0, which rests then; the term of minute 12 lets it say no alarm. */
    private static void minutes(EarPaper x) {
        x.say(0, 0, 0);
        x.weather(2);
        x.say(0, 1, 1);
        x.stage(70);
        x.say(2, 1, 0);
        x.say(5, 1, 0);
        x.say(4, 0, 0);
        x.say(1, 0, 2);
        x.pass(2);
        x.say(0, 0, -1);
        x.say(0, 0, 2);
        x.say(4, 0, 0);
    }
}
