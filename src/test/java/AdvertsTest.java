/** Promises 32 to 38: advert, sold, put, judge, order, check, count. */
public final class AdvertsTest {
    public static void main(String[] args) {
        advert();
        put();
        judge();
        orderRefused();
        order();
        check();
        count();
        Due.end();
    }

    private static void advert() {
        EarPaper x = new EarPaper();
        Due.is(32, x.advert(-1), -4);
        Due.is(32, x.advert(10), -6);
        Due.is(33, x.sold(0, -1), -4);
        Due.is(33, x.sold(0, 5), -6);
        Due.is(33, x.sold(-1, 5), -6);
        Due.is(33, x.sold(0, 0), -9);
        for (int i = 0; i < 200; i++) {
            Due.is(32, x.advert(i / 2 % 10), i / 5);
            if (i == 7) {
                Due.is(33, x.sold(1, 2), 3);
                Due.is(33, x.sold(1, 3), -9);
            }
        }
        Due.is(32, x.advert(1), -6);
        Due.is(32, x.advert(-1), -4);
        Due.is(32, x.count(7), 200);
        for (int i = 0; i < 200; i++) {
            Due.is(33, x.sold(i / 5, i % 5), i / 2 % 10);
        }
        Due.is(33, x.sold(40, 0), -9);
        Due.is(33, x.sold(-1, 4), -9);
        Due.is(33, x.sold(Integer.MAX_VALUE, 0), -9);
        Due.is(33, x.sold(858993460, 0), -9);
        Due.is(33, x.sold(Integer.MIN_VALUE, 4), -9);
        Due.is(33, x.count(14), 3);
        Due.is(33, x.count(16), 4);
    }

    private static void put() {
        EarPaper x = new EarPaper();
        Due.is(34, x.put(-32769), -4);
        Due.is(34, x.put(32768), -6);
        Due.is(34, x.count(10), 0);
        for (int i = 1; i <= 60; i++) {
            Due.is(34, x.put(i % 2 == 0 ? 32767 : -32768), i);
        }
        Due.is(34, x.put(0), -6);
        Due.is(34, x.put(-32769), -4);
        Due.is(34, x.count(10), 60);
    }

    private static void judge() {
        judged(0);
        judged(-9, 0, 1, 0, 1, 0);
        judged(-9, 9, 8, 9, 8, 7);
        judged(5, 0, 1, 0, 1, 0, 1);
        judged(5, 0, 1, 0, 1, 0, 0);
        judged(5, 0, 1, 0, 1, 0, 99, 99);
        judged(0, 10);
        judged(0, -1, -1);
        judged(0, 256, 1, 2, 3, 4);
        judged(1, 1, 1, 1, 1, 1);
        judged(1, 1, 10, 1, 1, 1, 1);
        judged(4, 1, 2, 3, 4, 4, 4);
        judged(4, 1, 2, 3, 4);
        judged(4, 1, 2, 3, 4, 32767);
        judged(3, 1, 2, 1);
        judged(2, 1, 2, -32768, 1, 2);
    }

    private static void judged(int due, int... row) {
        EarPaper x = new EarPaper();
        for (int one : row) {
            x.put(one);
        }
        Due.is(35, x.judge(), due);
        Due.is(35, x.count(10), 0);
        Due.is(35, x.judge(), 0);
        Due.is(35, x.put(3), 1);
        for (int what = 11; what <= 16; what++) {
            Due.is(35, x.count(what), 0);
        }
    }

    private static void orderRefused() {
        EarPaper x = new EarPaper();
        Due.is(36, x.order(-1, 10, 1, 500), -4);
        Due.is(36, x.order(1, -1, 1, 999), -4);
        Due.is(36, x.order(1, 2, -1, 500), -4);
        Due.is(36, x.order(10, 2, 3, -1), -4);
        Due.is(36, x.order(10, 2, 3, 500), -6);
        Due.is(36, x.order(1, 10, 3, 500), -6);
        Due.is(36, x.order(1, 2, 10, 500), -6);
        Due.is(36, x.order(1, 1, 3, 600), -6);
        Due.is(36, x.order(1, 1, 3, 60), -6);
        Due.is(36, x.order(1, 1, 3, 6), -6);
        Due.is(36, x.order(1, 2, 3, 1005), -6);
        Due.is(36, x.order(1, 2, 3, Integer.MAX_VALUE), -6);
        Due.is(36, x.order(1, 2, 3, 555), -3);
        Due.is(36, x.order(1, 2, 3, 0), -3);
        Due.is(36, x.order(1, 1, 3, 221), -3);
        Due.is(36, x.order(1, 3, 1, 221), -3);
        Due.is(36, x.order(3, 1, 1, 221), -3);
        Due.is(36, x.count(14), 4);
        Due.is(36, x.count(16), 8);
        Due.is(36, x.count(13), 5);
    }

    /** Against every number of five digits, the least first. */
    private static void order() {
        EarPaper x = new EarPaper();
        Due.is(36, x.order(0, 1, 2, 221), 1012);
        Due.is(36, x.order(2, 1, 0, 221), 1212);
        int[][] sorts = {{0, 1, 2}, {9, 0, 5}, {0, 9, 5}, {8, 4, 9}};
        for (int[] three : sorts) {
            for (int numbers = 0; numbers <= 555; numbers++) {
                int[] many = {numbers / 100, numbers / 10 % 10, numbers % 10};
                if (many[0] + many[1] + many[2] == 5) {
                    Due.is(36, x.order(three[0], three[1], three[2], numbers), leastFair(three, many));
                }
            }
        }
    }

    private static int leastFair(int[] sorts, int[] many) {
        for (int number = 0; number < 100000; number++) {
            String digits = String.format("%05d", number);
            boolean fair = true;
            for (int i = 1; i < 5; i++) {
                fair &= digits.charAt(i) != digits.charAt(i - 1);
            }
            for (int s = 0; s < 3; s++) {
                int sort = '0' + sorts[s];
                fair &= digits.chars().filter(c -> c == sort).count() == many[s];
            }
            if (fair) {
                return number;
            }
        }
        return -9;
    }

    private static void check() {
        EarPaper x = new EarPaper();
        Due.is(37, x.check(0), -1);
        x.reader(9);
        x.say(0, 0, -1);
        x.stage(9);
        x.pass(2);
        x.say(4, 0, 0);
        checked(x, 0, -9, 0, 3, 6, 6, 4);
        checked(x, 0, 1, 0, 0, 6, 6, 4);
        checked(x, 0, 4, 0, 3, 6, 6, 6);
        checked(x, 1, -9, 3, 6);
        checked(x, 2, 0, 3, 6);
        checked(x, 3, 1, 6, 260);
        checked(x, 4, -9, 4);
        checked(x, 4, -9);
        checked(x, 0, 0, -32768);
        checked(x, 3, -1, 6, 4, 0);
        x.judge();
        checked(x, 0, -1, 0, 3, 6, 6, 4, 4);
        Due.is(37, x.count(10), 6);
        Due.is(37, x.check(5), -1);
        Due.is(37, x.check(-1), -1);
        x.pass(1);
        Due.is(37, x.check(0), 5);
        Due.is(37, x.count(10), 0);
        Due.is(37, x.check(6), -1);
        Due.is(37, x.check(5), -9);
        Due.is(37, x.check(Integer.MAX_VALUE), -1);
        Due.is(37, x.check(Integer.MIN_VALUE), -1);
        Due.is(37, x.count(11), 8);
    }

    private static void checked(EarPaper x, int minute, int due, int... row) {
        for (int one : row) {
            x.put(one);
        }
        Due.is(37, x.check(minute), due);
        Due.is(37, x.count(10), due == -1 ? row.length : 0);
    }

    private static void count() {
        EarPaper x = new EarPaper();
        x.node(0, 1);
        x.node(0, 1);
        x.home(0, 1, 0, 0);
        x.home(0, 1, 0, 0);
        x.home(0, 1, 0, 0);
        x.reader(1);
        x.cut(1, 0, 0);
        x.cut(1, 0, 0);
        Due.feed(x, "1");
        x.term(0, 0);
        x.news(true);
        x.news(true);
        x.news(true);
        x.advert(1);
        x.advert(1);
        x.pass(4);
        x.say(4, 0, 0);
        x.say(4, 0, 0);
        x.say(4, 0, 0);
        x.feed(5, 0);
        x.put(1);
        x.put(1);
        x.complain(2, true);
        x.node(9, 9);
        x.breaks(9);
        x.breaks(9);
        x.say(1, 0, 4);
        x.say(1, 0, 4);
        x.say(1, 0, 4);
        x.pass(0);
        x.pass(0);
        x.pass(0);
        x.pass(0);
        for (int i = 0; i < 6; i++) {
            x.pass(10000);
        }
        int[] due = {7, 3, 3, 1, 2, 1, 3, 2, 4, 5, 2, 1, 2, 3, 4, 0, 6, 1, 3};
        for (int what = 0; what < due.length; what++) {
            Due.is(38, x.count(what), due[what]);
        }
        Due.is(38, x.count(-1), -9);
        Due.is(38, x.count(19), -9);
        Due.is(38, x.count(Integer.MIN_VALUE), -9);
        for (int what = 0; what < due.length; what++) {
            Due.is(38, x.count(what), due[what]);
        }
    }
}
