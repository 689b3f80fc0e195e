/** Promises 22 to 27: complain, breaks, could, boosts, covers, rights. */
public final class BreaksTest {
    private static final int ALL = 16777215;

    public static void main(String[] args) {
        complain();
        breaks();
        rivals();
        laterNodes();
        could();
        boosts();
        boostsNow();
        covers();
        coversNow();
        rights();
        rightsByTerm();
        Due.end();
    }

    private static void complain() {
        EarPaper x = new EarPaper();
        Due.is(22, x.complain(0, true), -1);
        Due.is(22, x.complain(-1, false), -1);
        x.home(0, 1, 0, 0);
        x.home(0, 1, 0, 0);
        Due.is(22, x.complain(0, false), 0);
        Due.is(22, x.complain(0, true), 1);
        Due.is(22, x.complain(0, true), 0);
        Due.is(22, x.count(17), 1);
        Due.is(22, x.complain(1, true), 1);
        Due.is(22, x.count(17), 2);
        Due.is(22, x.complain(0, false), 1);
        Due.is(22, x.count(17), 1);
        Due.is(22, x.count(11), 2);
    }

    private static void told(EarPaper x, int fewest, int rivals, int set) {
        Due.is(23, x.breaks(0), fewest);
        Due.is(23, x.breaks(1), rivals);
        Due.is(23, x.breaks(2), set);
    }

    private static void breaks() {
        EarPaper x = new EarPaper();
        Due.is(23, x.breaks(3), -2);
        Due.is(23, x.breaks(-1), -2);
        told(x, 0, 1, 0);
        x.node(0, 1);
        x.node(1, 1);
        x.node(1, 1);
        told(x, 0, 1, 0);
        x.home(2, 1, 0, 0);
        x.home(3, 1, 0, 0);
        x.home(1, 1, 0, 0);
        x.complain(0, true);
        told(x, 1, 1, 4);
        x.complain(1, true);
        told(x, 2, 1, 12);
        x.complain(2, true);
        told(x, 1, 1, 2);
        x.complain(0, false);
        told(x, -9, -9, -9);
        x.complain(2, false);
        told(x, 1, 1, 8);
        x.home(0, 1, 0, 0);
        told(x, 1, 1, 8);
        x.complain(3, true);
        told(x, -9, -9, -9);
    }

    private static void rivals() {
        EarPaper x = new EarPaper();
        x.node(0, 1);
        x.node(1, 1);
        x.node(2, 1);
        x.node(0, 1);
        x.node(4, 1);
        x.home(3, 1, 0, 0);
        x.home(5, 1, 0, 0);
        x.complain(0, true);
        told(x, 1, 3, 2);
        x.complain(1, true);
        told(x, 2, 6, 2 + 16);
        x.home(1, 1, 0, 0);
        told(x, 2, 4, 4 + 16);
        x.home(4, 1, 0, 0);
        told(x, 2, 2, 4 + 32);
    }

    private static void laterNodes() {
        EarPaper x = new EarPaper();
        for (int i = 1; i <= 11; i++) {
            x.node(0, 1);
        }
        x.node(0, 1);
        x.node(11, 1);
        x.home(12, 1, 0, 0);
        x.home(13, 1, 0, 0);
        x.complain(1, true);
        told(x, 1, 1, 1 << 11);
        x.complain(0, true);
        told(x, -9, -9, -9);
        x.complain(0, false);
        for (int i = 1; i <= 10; i++) {
            x.home(i, 1, 0, 0);
            x.complain(1 + i, true);
        }
        told(x, 11, 1, 4094);
    }

    private static void could() {
        EarPaper x = new EarPaper();
        for (int i = 1; i <= 10; i++) {
            x.node(0, 1);
        }
        Due.is(24, x.could(11, 0), -1);
        Due.is(24, x.could(-1, 5), -1);
        Due.is(24, x.could(1, 0), -4);
        Due.is(24, x.could(1, 100), -6);
        Due.is(24, x.could(1, 99), 0);
        Due.is(24, x.could(1, 0), -3);
        Due.is(24, x.could(1, 100), -3);
        Due.is(24, x.could(0, 1), 1);
        for (int i = 2; i <= 8; i++) {
            Due.is(24, x.could(i, 1), i);
        }
        Due.is(24, x.could(9, 1), -6);
        Due.is(24, x.could(9, 0), -4);
        Due.is(24, x.could(8, 1), -3);
        Due.is(24, x.count(13), 3);
    }

    private static void boosts() {
        EarPaper x = new EarPaper();
        Due.is(25, x.boosts(0), -4);
        Due.is(25, x.boosts(1000), -6);
        Due.is(25, x.boosts(1), 0);
        x.node(0, 10);
        x.node(1, 10);
        x.node(1, 10);
        x.home(2, 1, 0, 0);
        x.home(3, 2, 0, 0);
        Due.is(25, x.boosts(40), 0);
        Due.is(25, x.boosts(39), -9);
        x.could(2, 10);
        x.could(3, 10);
        Due.is(25, x.boosts(39), 2);
        Due.is(25, x.boosts(30), 2);
        Due.is(25, x.boosts(29), -9);
        x.could(1, 50);
        Due.is(25, x.boosts(29), 4);
        Due.is(25, x.boosts(39), 2);
        Due.is(25, x.boosts(11), 4);
        Due.is(25, x.boosts(10), -9);
        x.home(0, 1, 0, 0);
        Due.is(25, x.boosts(11), 4);
        x.home(0, 2, 0, 0);
        Due.is(25, x.boosts(19), -9);
        // What could be is not what is.
        Due.is(25, x.loud(3, 39), 19);
    }

    private static void boostsNow() {
        EarPaper x = new EarPaper();
        x.node(0, 10);
        x.node(1, 10);
        x.home(2, 1, 0, 0);
        x.could(2, 9);
        x.could(1, 3);
        Due.is(25, x.boosts(29), 1);
        Due.is(25, x.boosts(21), 1);
        Due.is(25, x.boosts(20), 3);
        Due.is(25, x.boosts(18), 3);
        Due.is(25, x.boosts(17), -9);
        x.boost(1, 2);
        Due.is(25, x.boosts(28), 0);
        Due.is(25, x.boosts(19), 1);
        Due.is(25, x.boosts(18), 3);
        Due.is(25, x.boosts(25), 1);
        x.cut(2, 0, 9999);
        Due.is(25, x.boosts(28), 0);
        x.weather(5);
        Due.is(25, x.boosts(38), 0);
        Due.is(25, x.boosts(37), 1);
        x.least(99);
        Due.is(25, x.boosts(114), -9);
        Due.is(25, x.boosts(115), 3);
        Due.is(25, x.boosts(127), 0);
        Due.is(25, x.boosts(126), 1);
        Due.is(25, x.boosts(118), 1);
        Due.is(25, x.boosts(117), 3);
    }

    private static void covers() {
        EarPaper x = new EarPaper();
        x.home(0, 1, 3, 4);
        x.home(0, 1, 2, 1);
        x.home(0, 5, 5, 0);
        x.home(0, 1, 6, 8);
        Due.is(26, x.covers(0, -1, 0), -1);
        x.stage(50);
        x.pass(1);
        Due.is(26, x.covers(2, 1, 50), -1);
        Due.is(26, x.covers(-1, 1, 50), -1);
        Due.is(26, x.covers(0, -1, 1000), -4);
        Due.is(26, x.covers(0, ALL + 1, 0), -4);
        Due.is(26, x.covers(0, ALL + 1, 50), -6);
        Due.is(26, x.covers(0, 0, 1000), -6);
        Due.is(26, x.covers(0, 0, 50), 0);
        Due.is(26, x.covers(0, 1, 50), 2);
        Due.is(26, x.covers(0, 2, 50), 2);
        Due.is(26, x.covers(0, 4, 50), 1);
        Due.is(26, x.covers(0, 8, 50), 0);
        Due.is(26, x.covers(0, ALL, 50), 3);
        Due.is(26, x.covers(0, 3, 49), 2);
        Due.is(26, x.covers(0, ALL, 9), 0);
        Due.is(26, x.covers(1, ALL, 50), 0);
        Due.is(26, x.count(11), 3);
        Due.is(26, x.count(14), 2);
        Due.is(26, x.count(16), 2);
    }

    private static void coversNow() {
        EarPaper x = new EarPaper();
        x.node(0, 10);
        x.home(1, 1, 1, 0);
        x.weather(10);
        x.stage(30);
        x.weather(0);
        Due.is(26, x.covers(0, 1, 20), 1);
        Due.is(26, x.covers(0, 1, 19), 0);
        x.cut(1, 1, 9);
        Due.is(26, x.covers(0, 1, 20), 1);
        x.stage(999);
        Due.is(26, x.covers(1, 1, 999), 0);
        x.boost(1, 5);
        Due.is(26, x.covers(0, 1, 15), 1);
        x.weather(5);
        Due.is(26, x.covers(0, 1, 19), 0);
        Due.is(26, x.covers(0, 1, 20), 1);
        x.weather(20);
        Due.is(26, x.covers(0, 1, 30), 0);
        Due.is(26, x.covers(0, 1, 35), 1);
        x.least(16);
        Due.is(26, x.covers(0, 1, 999), 0);
    }

    private static void rights() {
        EarPaper x = new EarPaper();
        Due.is(27, x.rights(0, -1, 0), -1);
        x.home(0, 1, 1, 0);
        x.home(0, 1, 2, 1);
        x.home(0, 1, 6, 1);
        x.home(0, 1, 8, 1);
        x.home(0, 1, 0, 2);
        x.stage(50);
        x.pass(1);
        Due.is(27, x.rights(2, 1, 50), -1);
        Due.is(27, x.rights(0, -1, 1000), -4);
        Due.is(27, x.rights(0, 8191, 0), -4);
        Due.is(27, x.rights(0, 8191, 50), -6);
        Due.is(27, x.rights(0, ALL + 1, 50), -6);
        Due.is(27, x.rights(0, 1, 1000), -6);
        Due.is(27, x.rights(0, 4095, 50), 11);
        Due.is(27, x.rights(0, ALL & ~4095 | 11, 50), -6);
        Due.is(27, x.rights(0, (1 << 23) | 15, 50), 11);
        Due.is(27, x.rights(0, 7, 50), -9);
        Due.is(27, x.rights(0, 4095, 9), -9);
        Due.is(27, x.rights(0, 0, 50), -9);
        Due.is(27, x.rights(1, 0, 50), 0);
    }

    private static void rightsByTerm() {
        EarPaper x = new EarPaper();
        Due.feed(x, "m-1");
        x.term(2, 0);
        Due.feed(x, "m/2");
        x.term(2, 1);
        Due.feed(x, "0-5");
        x.term(2, 2);
        Due.feed(x, "m+1");
        x.term(2, 3);
        x.home(0, 1, 1, 0);
        x.home(0, 1, 2, 1);
        x.home(0, 1, 6, 1);
        x.home(0, 1, 12, 1);
        x.stage(50);
        x.stage(50);
        x.stage(50);
        x.stage(50);
        Due.is(27, x.rights(0, 4095, 50), 3);
        Due.is(27, x.rights(0, 14, 50), 6);
        Due.is(27, x.rights(0, 12, 50), -9);
        Due.is(27, x.rights(1, 4095, 50), 2);
        Due.is(27, x.rights(1, 12, 50), 4);
        Due.is(27, x.rights(1, 9, 50), 9);
        Due.is(27, x.rights(2, 4095, 50), 0);
        Due.is(27, x.rights(2, 0, 1), 0);
        Due.is(27, x.rights(3, 4095, 50), -9);
    }
}
