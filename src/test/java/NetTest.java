/** Promises 1 to 7: a new object, pass, node, boost, weather, cut, loud. */
public final class NetTest {
    public static void main(String[] args) {
        newObject();
        pass();
        node();
        boost();
        weather();
        cut();
        cutInForce();
        loud();
        Due.end();
    }

    private static void newObject() {
        EarPaper x = new EarPaper();
        for (int what = 0; what <= 18; what++) {
            Due.is(1, x.count(what), what == 1 ? 1 : 0);
        }
        Due.is(1, x.loud(0, 7), 7);
        Due.is(1, x.loud(1, 7), -1);
        Due.is(1, x.minuteOf(0, 0), -1);
        EarPaper y = new EarPaper();
        x.node(0, 1);
        Due.is(1, y.count(1), 1);
    }

    private static void pass() {
        EarPaper x = new EarPaper();
        Due.is(2, x.pass(0), -4);
        Due.is(2, x.pass(Integer.MIN_VALUE), -4);
        Due.is(2, x.pass(10000), -6);
        Due.is(2, x.pass(Integer.MAX_VALUE), -6);
        Due.is(2, x.count(0), 0);
        Due.is(2, x.pass(1), 1);
        Due.is(2, x.pass(9998), 9999);
        Due.is(2, x.pass(1), -6);
        Due.is(2, x.pass(Integer.MAX_VALUE), -6);
        Due.is(2, x.count(0), 9999);
        Due.is(2, x.count(8), 9999);
        Due.is(2, x.minuteOf(9998, 0), 6);
        Due.is(2, x.minuteOf(9999, 0), -1);
        Due.is(2, x.count(14), 2);
        Due.is(2, x.count(16), 4);
    }

    private static void node() {
        EarPaper x = new EarPaper();
        Due.is(3, x.node(-1, 0), -1);
        Due.is(3, x.node(1, 1), -1);
        Due.is(3, x.node(0, 0), -4);
        Due.is(3, x.node(0, 100), -6);
        Due.is(3, x.count(1), 1);
        for (int i = 1; i < 20; i++) {
            Due.is(3, x.node(i - 1, i == 1 ? 99 : 1), i);
        }
        Due.is(3, x.node(0, 1), -6);
        Due.is(3, x.node(0, 0), -4);
        Due.is(3, x.node(20, 1), -1);
        Due.is(3, x.count(1), 20);
        Due.is(3, x.loud(1, 999), 900);
        Due.is(3, x.loud(19, 999), 882);
    }

    private static void boost() {
        EarPaper x = new EarPaper();
        x.node(0, 10);
        x.node(1, 10);
        Due.is(4, x.boost(3, -1), -1);
        Due.is(4, x.boost(-1, 1), -1);
        Due.is(4, x.boost(1, -1), -4);
        Due.is(4, x.boost(1, 100), -6);
        Due.is(4, x.boost(1, 99), 0);
        Due.is(4, x.boost(1, 0), 99);
        Due.is(4, x.boost(1, 7), 0);
        Due.is(4, x.loud(1, 11), 8);
        Due.is(4, x.loud(1, 10), 0);
        Due.is(4, x.loud(2, 20), 7);
        Due.is(4, x.boost(0, 50), 0);
        Due.is(4, x.boost(0, 50), 50);
        Due.is(4, x.loud(0, 20), 20);
        Due.is(4, x.loud(1, 20), 17);
        x.boost(1, 99);
        Due.is(4, x.loud(1, 909), 998);
        Due.is(4, x.loud(1, 910), 999);
        Due.is(4, x.loud(1, 999), 999);
        Due.is(4, x.loud(2, 999), 989);
    }

    private static void weather() {
        EarPaper x = new EarPaper();
        x.node(0, 13);
        Due.is(5, x.weather(-1), -4);
        Due.is(5, x.weather(21), -6);
        Due.is(5, x.weather(20), 0);
        Due.is(5, x.loud(1, 100), 61);
        x.pass(2);
        Due.is(5, x.weather(1), 20);
        Due.is(5, x.loud(1, 100), 86);
        Due.is(5, x.weather(3), 1);
        x.stage(50);
        Due.is(5, x.weather(0), 3);
        Due.is(5, x.minuteOf(0, 6), 20);
        Due.is(5, x.minuteOf(1, 6), 20);
        Due.is(5, x.minuteOf(2, 6), 3);
        Due.is(5, x.loud(1, 100), 87);
    }

    private static void cut() {
        EarPaper x = new EarPaper();
        x.node(0, 1);
        Due.is(6, x.cut(0, 5, 4), -1);
        Due.is(6, x.cut(2, 0, 0), -1);
        Due.is(6, x.cut(-1, 0, 0), -1);
        Due.is(6, x.cut(1, -1, 0), -4);
        Due.is(6, x.cut(1, 1, 0), -4);
        Due.is(6, x.cut(1, 10001, 10000), -4);
        Due.is(6, x.cut(1, 9999, 10000), -6);
        Due.is(6, x.cut(1, 10000, 10000), -6);
        Due.is(6, x.count(4), 0);
        x.pass(3);
        Due.is(6, x.cut(1, 2, 5), -4);
        Due.is(6, x.cut(1, 3, 9999), 1);
        for (int i = 2; i <= 40; i++) {
            Due.is(6, x.cut(1, 9999, 9999), i);
        }
        Due.is(6, x.cut(1, 9999, 9999), -6);
        Due.is(6, x.cut(1, 9999, 9998), -4);
        Due.is(6, x.count(4), 40);
    }

    private static void cutInForce() {
        EarPaper x = new EarPaper();
        x.node(0, 1);
        x.node(1, 1);
        x.boost(1, 9);
        x.boost(2, 9);
        x.home(1, 1, 1, 0);
        x.home(2, 1, 1, 0);
        x.cut(1, 1, 2);
        x.cut(2, 4, 4);
        int[] atOne = {28, 0, 0, 28, 28, 28};
        int[] atTwo = {36, 0, 0, 36, 0, 36};
        for (int minute = 0; minute < 6; minute++) {
            Due.is(6, x.loud(0, 20), 20);
            Due.is(6, x.loud(1, 20), atOne[minute]);
            Due.is(6, x.loud(2, 20), atTwo[minute]);
            x.stage(20);
        }
        int[] sure = {2, 0, 0, 2, 1, 2};
        for (int minute = 0; minute < 6; minute++) {
            Due.is(6, x.minuteOf(minute, 4), sure[minute]);
        }
    }

    private static void loud() {
        EarPaper x = new EarPaper();
        x.node(0, 99);
        x.node(0, 7);
        Due.is(7, x.loud(3, 0), -1);
        Due.is(7, x.loud(-1, 5), -1);
        Due.is(7, x.loud(0, 0), -4);
        Due.is(7, x.loud(0, Integer.MIN_VALUE), -4);
        Due.is(7, x.loud(0, 1000), -6);
        Due.is(7, x.loud(0, 999), 999);
        Due.is(7, x.loud(0, 1), 1);
        Due.is(7, x.loud(1, 99), 0);
        Due.is(7, x.loud(1, 98), 0);
        Due.is(7, x.loud(1, 100), 1);
        x.weather(5);
        Due.is(7, x.loud(2, 20), 10);
        x.weather(20);
        Due.is(7, x.loud(1, 300), 3);
        Due.is(7, x.loud(1, 297), 0);
    }
}
