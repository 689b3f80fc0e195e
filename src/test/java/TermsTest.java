/** Promises 18 to 21: feed, term, worth, account. */
public final class TermsTest {
    public static void main(String[] args) {
        feed();
        termRefused();
        faults();
        sums();
        letters();
        inForce();
        without();
        worthRefused();
        account();
        longAccount();
        Due.end();
    }

    private static void feed() {
        EarPaper x = new EarPaper();
        Due.is(18, x.feed(0, 1), -4);
        Due.is(18, x.feed(9, 1), -6);
        Due.is(18, x.count(9), 0);
        Due.is(18, x.feed(8, 0x2b312b312b312b31L), 8);
        Due.is(18, x.feed(1, 0x131L), 9);
        Due.is(18, x.term(0, 0), 1);
        Due.is(18, x.count(9), 0);
        x.stage(5);
        Due.is(18, x.worth(0, 0), 5);
        for (int i = 1; i <= 7; i++) {
            Due.is(18, x.feed(8, -1L), 8 * i);
        }
        Due.is(18, x.feed(5, 0), -6);
        Due.is(18, x.count(9), 56);
        Due.is(18, x.feed(4, 0), 60);
        Due.is(18, x.feed(1, 0), -6);
        Due.is(18, x.feed(0, 0), -4);
        Due.is(18, x.count(9), 60);
        Due.is(18, x.term(0, 1), -20);
        // The first byte comes first: "2-1".
        Due.is(18, x.feed(3, '2' | '-' << 8 | '1' << 16), 3);
        x.term(0, 1);
        x.stage(5);
        Due.is(18, x.worth(0, 1), 1);
    }

    private static void termRefused() {
        EarPaper x = new EarPaper();
        x.pass(3);
        Due.feed(x, "x");
        Due.is(19, x.term(4, 2), -2);
        Due.is(19, x.term(-1, 3), -2);
        Due.is(19, x.term(0, 2), -4);
        Due.is(19, x.term(0, 10000), -6);
        Due.is(19, x.count(9), 1);
        Due.is(19, x.term(3, 9999), -20);
        Due.is(19, x.count(9), 0);
        Due.is(19, x.count(5), 0);
        for (int i = 1; i <= 30; i++) {
            Due.feed(x, "1");
            Due.is(19, x.term(i % 4, 3), i);
        }
        Due.is(19, x.term(0, 3), -6);
        Due.feed(x, "1");
        Due.is(19, x.term(0, 3), -6);
        Due.is(19, x.term(0, 2), -4);
        Due.is(19, x.count(9), 1);
        Due.is(19, x.count(5), 30);
        Due.is(19, x.count(12), 2);
        Due.is(19, x.count(14), 2);
        Due.is(19, x.count(16), 3);
    }

    private static void faults() {
        fault("", 0);
        fault("-1", 0);
        fault("+", 0);
        fault(")", 0);
        fault(" 1", 0);
        fault("b", 0);
        fault("K", 0);
        fault("1 ", 1);
        fault("1+", 2);
        fault("1*", 2);
        fault("1**2", 2);
        fault("1+-2", 2);
        fault("12345", -1);
        fault("00000", -1);
        fault("123456", 5);
        fault("000001", 5);
        fault("kk", 1);
        fault("k1", 1);
        fault("1k", 1);
        fault("1(2)", 1);
        fault("(1)2", 3);
        fault("(1)(2)", 3);
        fault("()", 1);
        fault("(1", 2);
        fault("(1+", 3);
        fault("(1<", 3);
        fault("(1<2", 4);
        fault("(1<2)", -1);
        fault("(1=2)", -1);
        fault("(1>2)", -1);
        fault("(1<2<3)", 4);
        fault("(1<2=3)", 4);
        fault("(1<=2)", 3);
        fault("(<2)", 1);
        fault("1<2", 1);
        fault("1=2", 1);
        fault("1)", 1);
        fault("(1))", 3);
        fault("(1<2)+(3>k)*(v)", -1);
        fault("(((((1)))))", -1);
        fault("((((((1))))))", 5);
        fault("(((((1)))))+((((((1", 17);
        fault("((((((", 5);
        fault("(((((", 5);
        fault("((((1)+(1)+(1))))", -1);
        fault("((((1<(1+(2))))))", 9);
        fault("khvsmwan", 1);
        fault("k+h-v*s/m+w-a*n", -1);
        fault("1%2", 1);
        fault("k+x", 2);
        fault("1+\u00e9", 2);
        fault("\u0000", 0);
        fault("1:2", 1);
        fault("1/2", -1);
        fault("1".repeat(60), 5);
        fault("1+".repeat(29) + "12", -1);
        fault("1+".repeat(30), 60);
    }

    /** A place below 0: the text has no fault. */
    private static void fault(String text, int place) {
        EarPaper x = new EarPaper();
        if (text.length() > 0) {
            Due.feed(x, text);
        }
        int got = x.term(0, 0);
        Due.is(19, got, place < 0 ? 1 : -20 - place);
        if (got != (place < 0 ? 1 : -20 - place)) {
            System.out.println("  for " + text);
        }
        Due.is(19, x.count(9), 0);
        Due.is(19, x.count(5), place < 0 ? 1 : 0);
        for (int what = 11; what <= 16; what++) {
            Due.is(19, x.count(what), 0);
        }
    }

    private static void sums() {
        sum("1+2*3", 7);
        sum("(1+2)*3", 9);
        sum("9-3-2", 4);
        sum("100/7/2", 7);
        sum("100/7*2", 28);
        sum("7*100/2", 350);
        sum("5/0", 0);
        sum("5/(3-3)+1", 1);
        sum("(0-7)/2", -3);
        sum("7/(0-2)", -3);
        sum("(0-7)/(0-2)", 3);
        sum("0-7/2", -3);
        sum("2-3*4", -10);
        sum("99999", 99999);
        sum("00012", 12);
        sum("99999*99999", 1000000000);
        sum("0-99999*99999", -1000000000);
        sum("(0-99999)*99999-1", -1000000000);
        sum("99999*99999-1", 999999999);
        sum("99999*99999+1", 1000000000);
        sum("99999*99999/10", 100000000);
        sum("99999*99999*(0-99999)*99999", -1000000000);
        sum("99999*99999-99999*99999", 0);
        sum("(1<2)", 1);
        sum("(2<2)", 0);
        sum("(3<2)", 0);
        sum("(2=2)", 1);
        sum("(1=2)", 0);
        sum("(3>2)", 1);
        sum("(2>2)", 0);
        sum("(1>2)", 0);
        sum("(1+1=4/2)*5+(1<0)", 5);
        sum("(99999*99999=99999*99999+5)", 1);
        sum("((1<2)=(3>2))", 1);
        sum("(((((7)))))", 7);
    }

    private static void sum(String text, int due) {
        EarPaper x = new EarPaper();
        Due.feed(x, text);
        x.term(0, 0);
        x.pass(1);
        int got = x.worth(0, 0);
        Due.is(20, got, due);
        if (got != due) {
            System.out.println("  for " + text);
        }
    }

    private static void letters() {
        EarPaper x = new EarPaper();
        x.reader(40);
        x.home(0, 1, 2, 4);
        x.home(0, 4, 0, 2);
        x.home(0, 5, 2, 2);
        x.pass(60);
        x.weather(9);
        String[] letters = {"k", "h", "v", "s", "m", "w", "a", "n"};
        for (int i = 0; i < letters.length; i++) {
            Due.feed(x, letters[i]);
            x.term(0, 60 + i);
        }
        for (int i = 0; i < letters.length; i++) {
            x.say(i == 0 ? 2 : 4, 0, 0);
        }
        x.weather(3);
        x.pass(1);
        int[] due = {2, 1, 40, 1, 2, 9, 3, 3};
        for (int i = 0; i < due.length; i++) {
            Due.is(20, x.worth(0, 60 + i), due[i]);
        }
        x.home(0, 1, 2, 0);
        x.pass(1);
        int[] later = {2, 1, 40, 2, 3, 9, 4, 4};
        for (int i = 0; i < due.length; i++) {
            Due.is(20, x.worth(0, 60 + i), later[i]);
        }
        x = new EarPaper();
        x.home(0, 1, 1, 0);
        Due.feed(x, "k*10+v+s+m");
        x.term(1, 0);
        x.pass(1);
        Due.is(20, x.worth(1, 0), 60);
    }

    private static void inForce() {
        EarPaper x = new EarPaper();
        told(x, "5", 0, 5);
        told(x, "2", 0, 2);
        told(x, "22", 0, 2);
        told(x, "7", 1, 1);
        told(x, "9", 2, 3);
        told(x, "4", 0, 4);
        told(x, "3", 0, 3);
        told(x, "8", 3, 0);
        x.pass(8);
        int[] owed = {0, 0, 22, 3, 4, 5, 5, 5};
        int[] paid = {0, 7, 7, 7, 7, 7, 7, 7};
        int[] righted = {0, 0, 0, 9, 9, 9, 9, 9};
        for (int minute = 0; minute < 8; minute++) {
            Due.is(20, x.worth(0, minute), owed[minute]);
            Due.is(20, x.worth(1, minute), paid[minute]);
            Due.is(20, x.worth(2, minute), righted[minute]);
        }
        told(x, "6", 0, 8);
        x.pass(1);
        Due.is(20, x.worth(0, 7), 5);
        Due.is(20, x.worth(0, 8), 6);
    }

    private static int told(EarPaper x, String text, int purpose, int minute) {
        Due.feed(x, text);
        return x.term(purpose, minute);
    }

    private static void without() {
        EarPaper x = new EarPaper();
        x.home(0, 1, 1, 0);
        x.home(0, 1, 0, 1);
        x.home(0, 1, 0, 2);
        x.stage(50);
        x.pass(1);
        Due.is(20, x.worth(0, 0), 0);
        Due.is(20, x.worth(1, 0), 0);
        Due.is(20, x.worth(2, 0), 2);
        Due.is(20, x.worth(2, 1), 0);
    }

    private static void worthRefused() {
        EarPaper x = new EarPaper();
        Due.is(20, x.worth(3, 0), 1000000001);
        x.pass(1);
        Due.is(20, x.worth(3, 0), 1000000002);
        Due.is(20, x.worth(-1, 0), 1000000002);
        Due.is(20, x.worth(0, 1), 1000000001);
        Due.is(20, x.worth(0, -1), 1000000001);
        Due.is(20, x.count(11), 3);
        Due.is(20, x.count(12), 2);
    }

    private static void account() {
        EarPaper x = new EarPaper();
        Due.is(21, x.account(0, 0), 4000000000000000001L);
        told(x, "100*(k=4)+s", 1, 0);
        told(x, "v", 0, 0);
        told(x, "a*(k=6)", 1, 4);
        x.reader(30);
        x.home(0, 1, 1, 0);
        x.say(4, 0, 0);
        x.stage(40);
        x.say(2, 0, 0);
        x.pass(3);
        Due.is(21, x.account(0, 0), 71);
        Due.is(21, x.account(1, 1), -39);
        Due.is(21, x.account(2, 2), -29);
        Due.is(21, x.account(3, 3), 0);
        Due.is(21, x.account(4, 4), 2);
        Due.is(21, x.account(5, 5), 1);
        Due.is(21, x.account(0, 5), 6);
        Due.is(21, x.account(0, 6), 4000000000000000001L);
        Due.is(21, x.account(6, 6), 4000000000000000001L);
        Due.is(21, x.account(-1, 3), 4000000000000000001L);
        Due.is(21, x.account(3, 2), 4000000000000000001L);
        Due.is(21, x.account(Integer.MIN_VALUE, Integer.MAX_VALUE), 4000000000000000001L);
        Due.is(21, x.count(11), 6);
    }

    private static void longAccount() {
        EarPaper x = new EarPaper();
        told(x, "99999*99999", 1, 0);
        told(x, "0-99999*99999", 0, 0);
        x.pass(9999);
        Due.is(21, x.account(0, 9998), 9999L * 2000000000L);
        Due.is(21, x.account(9998, 9998), 2000000000L);
        x = new EarPaper();
        told(x, "h", 1, 0);
        told(x, "a", 0, 100);
        x.pass(3000);
        long due = 0;
        for (int minute = 0; minute < 3000; minute++) {
            due += minute / 60 % 24 - (minute >= 100 ? 3000 - minute : 0);
        }
        Due.is(21, x.account(0, 2999), due);
        x.pass(1);
        Due.is(21, x.account(59, 60), 1);
        Due.is(21, x.account(1439, 1440), 23 - (3001 - 1439) - (3001 - 1440));
        x = new EarPaper();
        told(x, "3", 1, 10);
        told(x, "4", 1, 59);
        told(x, "1", 0, 11);
        x.pass(100);
        Due.is(21, x.account(0, 9), 0);
        Due.is(21, x.account(0, 10), 3);
        Due.is(21, x.account(0, 58), 49 * 3 - 48);
        Due.is(21, x.account(0, 59), 49 * 3 + 4 - 49);
        Due.is(21, x.account(0, 99), 49 * 3 + 41 * 4 - 89);
    }
}
