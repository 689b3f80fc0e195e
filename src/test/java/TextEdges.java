import java.util.function.Consumer;

/** Edges of terms III and of promises 18 to 21. */
final class TextEdges {
    private static final int STANDS = -1;
    private static final Consumer<EarPaper> FULL_TAPE = x -> Due.feed(x, "1+".repeat(29) + "12");
    private static final Consumer<EarPaper> FULL_TERMS = x -> {
        for (int i = 0; i < 30; i++) {
            x.feed(1, '7');
            x.term(i % 4, 0);
        }
        x.feed(1, '5');
    };

    private TextEdges() {
    }

    static void all() {
        texts();
        terms();
        Edge.of(18, "n (1 .. 8) bytes come, the lowest first: how many THE TAPE has.", TextEdges::feed);
        Edge.of(18, "-4; -6 (n; above 60).", TextEdges::feedRefused);
        Edge.of(19, "THE TAPE becomes a TERM, and has none (by a FAULT, too): how many were told;", TextEdges::term);
        Edge.of(19, "or, if it has a FAULT, -20 less its place (nothing is counted; THE TAPE has none, too).",
            TextEdges::termWithFault);
        Edge.of(19, "-2; -4 ahead of now; -6 (above 9999, 30, too). (Refused: THE TAPE stays.)", TextEdges::termRefused);
        Edge.of(20, "OWED (0), PAID (1), RIGHTED (2) of a MINUTE that went by.", TextEdges::worth);
        Edge.of(20, "Refused as told: 1000000001; 1000000002.", TextEdges::worthRefused);
        Edge.of(21, "ACCOUNT.", TextEdges::account);
        Edge.of(21, "-1 (MINUTES that did not go by, b ahead of a, too).", TextEdges::accountRefused);
    }

    private static void texts() {
        int at = Document.TERMS;
        Edge.of(at, "TEXTS (60 bytes at most):", TextEdges::longest);
        Edge.of(at, "SUM: TERM { \"+\" TERM, \"-\" TERM };", TextEdges::sums);
        Edge.of(at, "TERM: UNIT { \"*\" UNIT, \"/\" UNIT }", TextEdges::products);
        Edge.of(at, "(cut toward 0; by 0: 0; from the left on);", TextEdges::division);
        Edge.of(at, "UNIT: a number of 1 to 5 digits, a letter,", TextEdges::units);
        Edge.of(at, "\"(\" SUM \")\" or \"(\" SUM, one of \"<\", \"=\", \">\", SUM \")\": 1 if so, else 0.", TextEdges::brackets);
        Edge.of(at, "Held within -1000000000 .. 1000000000 after each step.", TextEdges::held);
        Edge.of(at, "Brackets are 5 deep at most.", TextEdges::deep);
        Edge.of(at, "FAULT: the place of the first byte that can not stand (the end, if something lacks; of a sixth bracket "
            + "its own).", TextEdges::faults);
    }

    private static void terms() {
        int at = Document.TERMS;
        Edge.of(at, "LETTERS (no others can stand), of a MINUTE:", TextEdges::otherBytes);
        Edge.of(at, "k KIND, h HOUR, v VOICE (0 DEAD), s SURE, m MOST, w WEATHER, a MINUTES since then, n how many HOMES "
            + "there are.", TextEdges::letters);
        Edge.of(at, "TERMS (30 at most):", TextEdges::many);
        Edge.of(at, "TERMS (30 at most):", TextEdges::manyLongOnes);
        Edge.of(at, "a TEXT for a PURPOSE from a MINUTE on (now or later):", TextEdges::nowOrLater);
        Edge.of(at, "0 OWED (what a MINUTE costs the house), 1 PAID (what it brings), 2 RIGHTED (how many HOMES must "
            + "surely hear a correction of it),", TextEdges::purposes);
        Edge.of(at, "3 BREAK (whether an ALARM may be said now: above 0;", TextEdges::breaksIn);
        Edge.of(at, "k 2, v the READER's, s, m, a 0).", TextEdges::lettersOfBreak);
        Edge.of(at, "In force on a MINUTE: the latest one not behind it, of several the one told last.", TextEdges::inForce);
        Edge.of(at, "Without one: 0, 0, MOST, 1.", TextEdges::without);
        Edge.of(at, "ACCOUNT of MINUTES from a to b: PAID less OWED of each, by the TERMS of that MINUTE.",
            TextEdges::accounts);
        Edge.of(at, "PAID less OWED of each, by the TERMS of that MINUTE.", TextEdges::accountsInParts);
    }

    // ---- helpers ----

    private static EarPaper fed(String text) {
        EarPaper x = new EarPaper();
        Due.feed(x, text);
        return x;
    }

    private static void fault(String text, int place) {
        Edge.is(fed(text).term(0, 0), place == STANDS ? 1 : -20 - place);
    }

    private static void value(String text, int due) {
        EarPaper x = fed(text);
        Edge.is(x.term(1, 0), 1);
        x.pass(1);
        Edge.is(x.worth(1, 0), due);
    }

    private static int told(EarPaper x, String text, int purpose, int minute) {
        Due.feed(x, text);
        return x.term(purpose, minute);
    }

    // ---- terms III: texts ----

    private static void longest() {
        EarPaper x = fed("1+".repeat(29) + "12");
        Edge.is(x.count(9), 60);
        Edge.is(x.feed(1, '3'), -6);
        Edge.is(x.term(0, 0), 1);
        x.pass(1);
        Edge.is(x.worth(0, 0), 41);
        fault("", 0);
        fault("1+".repeat(30), 60);
        fault("1+".repeat(29) + "1+", 60);
        fault("1+".repeat(29) + "1x", 59);
        value("k*k-".repeat(14) + "k*k", 36 - 14 * 36);
        value("(((((1)))))+".repeat(4) + "(((((1)))))", 5);
    }

    private static void sums() {
        value("7", 7);
        value("1+2", 3);
        value("1-2", -1);
        value("9-3-2", 4);
        value("9-3+2", 8);
        fault("+1", 0);
        fault("-1", 0);
        fault("1+", 2);
        fault("1-", 2);
        fault("1++2", 2);
        fault("1+-2", 2);
    }

    private static void products() {
        value("2*3", 6);
        value("7/2", 3);
        value("2+3*4", 14);
        value("2*3+4", 10);
        value("9-8/4", 7);
        fault("*1", 0);
        fault("/1", 0);
        fault("1*", 2);
        fault("1/", 2);
        fault("1*/2", 2);
        fault("2*+1", 2);
    }

    private static void division() {
        value("(0-7)/2", -3);
        value("7/(0-2)", -3);
        value("(0-7)/(0-2)", 3);
        value("1/2", 0);
        value("(0-1)/2", 0);
        value("5/0", 0);
        value("(0-5)/0", 0);
        value("0/0", 0);
        value("5/0+3", 3);
        value("5/(2-2)*9", 0);
        value("100/7/2", 7);
        value("7/2*2", 6);
        value("2*7/2", 7);
        value("8/4*2", 4);
    }

    private static void units() {
        value("0", 0);
        value("9", 9);
        value("99999", 99999);
        value("00000", 0);
        value("00012", 12);
        value("12345", 12345);
        fault("123456", 5);
        fault("000001", 5);
        fault("1+123456", 7);
        fault("(99999)", STANDS);
        fault("(999990)", 6);
        fault("n", STANDS);
        fault("nn", 1);
        fault("n1", 1);
        fault("1n", 1);
    }

    private static void brackets() {
        value("(7)", 7);
        value("(1<2)", 1);
        value("(2<2)", 0);
        value("(3<2)", 0);
        value("(1=2)", 0);
        value("(2=2)", 1);
        value("(3=2)", 0);
        value("(1>2)", 0);
        value("(2>2)", 0);
        value("(3>2)", 1);
        value("(0-1<0)", 1);
        value("(1+1=6/3)*9", 9);
        fault("()", 1);
        fault("(1", 2);
        fault("(1<", 3);
        fault("(1<)", 3);
        fault("(<1)", 1);
        fault("(1<2", 4);
        fault("(1<2<3)", 4);
        fault("(1<2=3)", 4);
        fault("(1<=2)", 3);
        fault("1<2", 1);
        fault("1=1", 1);
        fault("1)", 1);
        fault(")", 0);
        fault("(1))", 3);
        fault("(1)(2)", 3);
    }

    private static void held() {
        value("10000*10000*10", 1000000000);
        value("10000*10000*10-1", 999999999);
        value("10000*10000*10+1", 1000000000);
        value("10000*10000*10+1-1", 999999999);
        value("99999*99999", 1000000000);
        value("99999*99999*99999/10", 100000000);
        value("0-10000*10000*10", -1000000000);
        value("0-10000*10000*10+1", -999999999);
        value("0-10000*10000*10-1", -1000000000);
        value("0-10000*10000*10-1+1", -999999999);
        value("(0-99999)*99999*99999", -1000000000);
        value("(99999*99999=99999*99998)", 1);
        value("99999*10000+10000", 1000000000);
        value("99999*10000+9999", 999999999);
    }

    private static void deep() {
        value("(((((7)))))", 7);
        value("(((((1<2)))))", 1);
        value("((((1<(2)))))", 1);
        fault("((((((7))))))", 5);
        fault("((((1<((2))))))", 7);
        fault("(1)+(2)+(3)+(4)+(5)+(6)", STANDS);
        fault("(((((1)+(2)))))", STANDS);
        fault("(((((1+(2))))))", 7);
        fault("((((1)+(2))))", STANDS);
    }

    private static void faults() {
        fault("", 0);
        fault("1 ", 1);
        fault(" 1", 0);
        fault("1+", 2);
        fault("(", 1);
        fault("(((((", 5);
        fault("((((((", 5);
        fault("(((((1+2*", 9);
        fault("(((((1)))))+((((((", 17);
        fault("x(((((((", 0);
        fault("1(", 1);
        fault("1x2y", 1);
        fault("1+2+3+x", 6);
    }

    // ---- terms III: terms ----

    private static void otherBytes() {
        for (int one = 0; one < 256; one++) {
            boolean stands = one >= '0' && one <= '9' || one > ' ' && "khvsmwan".indexOf(one) >= 0;
            EarPaper x = new EarPaper();
            x.feed(1, one);
            Edge.is(x.term(0, 0), stands ? 1 : one == '(' ? -21 : -20);
            x.feed(2, '1' | one << 8);
            boolean goesOn = one >= '0' && one <= '9';
            boolean lacks = one > ' ' && "+-*/".indexOf(one) >= 0;
            Edge.is(x.term(0, 0), goesOn ? 2 : lacks ? -22 : -21);
        }
    }

    private static void letters() {
        EarPaper x = new EarPaper();
        x.reader(40);
        x.home(0, 1, 2, 4);
        x.home(0, 4, 0, 2);
        x.home(0, 5, 2, 2);
        String[] letters = {"k", "h", "v", "s", "m", "w", "a", "n"};
        int[] due = {4, 1, 40, 1, 2, 9, 2, 3};
        int[] dead = {6, 1, 0, 0, 0, 9, 2, 3};
        x.pass(60);
        x.weather(9);
        for (int i = 0; i < letters.length; i++) {
            told(x, letters[i], 0, x.count(0));
            x.say(4, 0, 0);
            x.pass(1);
            Edge.is(x.worth(0, x.count(0) - 2), due[i]);
            x.pass(1);
            Edge.is(x.worth(0, x.count(0) - 2), dead[i]);
        }
        told(x, "a+n*1000", 0, x.count(0));
        x.pass(1);
        int minute = x.count(0) - 1;
        Edge.is(x.worth(0, minute), 3001);
        x.home(0, 1, 0, 0);
        x.pass(9);
        Edge.is(x.worth(0, minute), 4010);
        // The weather is that of the minute, not of now.
        told(x, "w", 0, x.count(0));
        x.pass(1);
        x.weather(3);
        x.pass(1);
        Edge.is(x.worth(0, x.count(0) - 2), 9);
        Edge.is(x.worth(0, x.count(0) - 1), 3);
    }

    private static void many() {
        EarPaper x = new EarPaper();
        for (int i = 1; i <= 29; i++) {
            Edge.is(told(x, "1", i % 4, 0), i);
        }
        Edge.is(told(x, "8", 0, 0), 30);
        Edge.is(told(x, "9", 0, 0), -6);
        x.pass(1);
        Edge.is(x.worth(0, 0), 8);
        Edge.is(x.count(5), 30);
    }

    /** Each of them whole, however much was told ahead of it. */
    private static void manyLongOnes() {
        EarPaper x = new EarPaper();
        for (int i = 0; i < 30; i++) {
            Edge.is(told(x, "(" + i + "+1)*100-9/4-1/1+n*n", 0, i), i + 1);
        }
        x.pass(30);
        for (int i = 0; i < 30; i++) {
            Edge.is(x.worth(0, i), 100 * (i + 1) - 3);
        }
    }

    private static void nowOrLater() {
        EarPaper x = new EarPaper();
        x.pass(5);
        Edge.is(told(x, "4", 0, 4), -4);
        Edge.is(x.term(0, 5), 1);
        Edge.is(told(x, "6", 0, 9999), 2);
        Edge.is(told(x, "7", 0, 10000), -6);
        x.pass(1);
        Edge.is(x.worth(0, 4), 0);
        Edge.is(x.worth(0, 5), 4);
        x.pass(9993);
        Edge.is(x.worth(0, 9998), 4);
    }

    private static void purposes() {
        EarPaper x = new EarPaper();
        Edge.is(told(x, "1", -1, 0), -2);
        Edge.is(x.term(4, 0), -2);
        Edge.is(x.term(0, 0), 1);
        Edge.is(told(x, "2", 1, 0), 2);
        Edge.is(told(x, "3", 2, 0), 3);
        Edge.is(told(x, "0", 3, 0), 4);
        x.home(0, 1, 1, 0);
        x.stage(50);
        Edge.is(x.worth(0, 0), 1);
        Edge.is(x.worth(1, 0), 2);
        Edge.is(x.worth(2, 0), 3);
        Edge.is(x.account(0, 0), 1);
        Edge.is(x.rights(0, 1, 50), -9);
        Edge.is(told(x, "1", 2, 1), 5);
        x.stage(50);
        Edge.is(x.rights(1, 1, 50), 1);
    }

    private static int alarmUnder(String text) {
        EarPaper x = new EarPaper();
        x.home(0, 1, 1, 1);
        x.home(0, 1, 1, 1);
        x.reader(300);
        x.pass(60);
        x.weather(7);
        Edge.is(told(x, text, 3, 60), 1);
        return x.say(2, 0, 0);
    }

    private static void breaksIn() {
        Edge.is(alarmUnder("1"), 60);
        Edge.is(alarmUnder("0"), -3);
        Edge.is(alarmUnder("0-1"), -3);
        Edge.is(alarmUnder("99999*99999"), 60);
    }

    private static void lettersOfBreak() {
        Edge.is(alarmUnder("(k=2)"), 60);
        Edge.is(alarmUnder("(v=300)"), 60);
        Edge.is(alarmUnder("(s=0)"), 60);
        Edge.is(alarmUnder("(m=0)"), 60);
        Edge.is(alarmUnder("(a=0)"), 60);
        Edge.is(alarmUnder("(h=1)"), 60);
        Edge.is(alarmUnder("(w=7)"), 60);
        Edge.is(alarmUnder("(n=2)"), 60);
        Edge.is(alarmUnder("s+m+a"), -3);
        // What a minute of before was worth counts for nothing in it.
        EarPaper x = new EarPaper();
        x.home(0, 1, 1, 1);
        x.reader(50);
        told(x, "s+m+a", 0, 0);
        x.say(2, 0, 0);
        Edge.is(x.worth(0, 0), 3);
        told(x, "s+m+a", 3, 1);
        Edge.is(x.say(2, 0, 0), -3);
        Edge.is(x.worth(0, 0), 3);
        Edge.is(x.say(2, 0, 0), -3);
    }

    private static void inForce() {
        EarPaper x = new EarPaper();
        told(x, "5", 0, 5);
        told(x, "2", 0, 2);
        told(x, "3", 0, 2);
        told(x, "9", 1, 4);
        told(x, "4", 0, 4);
        x.pass(7);
        int[] due = {0, 0, 3, 3, 4, 5, 5};
        for (int minute = 0; minute < due.length; minute++) {
            Edge.is(x.worth(0, minute), due[minute]);
        }
        told(x, "6", 0, 7);
        told(x, "7", 0, 7);
        told(x, "8", 0, 8);
        x.pass(1);
        Edge.is(x.worth(0, 6), 5);
        Edge.is(x.worth(0, 7), 7);
    }

    private static void without() {
        EarPaper x = new EarPaper();
        x.reader(50);
        x.home(0, 1, 1, 0);
        x.home(0, 1, 0, 1);
        x.home(0, 1, 0, 2);
        Edge.is(x.say(2, 0, 0), 0);
        Edge.is(x.say(4, 0, 0), 1);
        x.pass(1);
        int[] most = {3, 2, 0};
        for (int minute = 0; minute < 3; minute++) {
            Edge.is(x.worth(0, minute), 0);
            Edge.is(x.worth(1, minute), 0);
            Edge.is(x.worth(2, minute), most[minute]);
        }
        Edge.is(x.account(0, 2), 0);
        // One that begins later is none yet.
        told(x, "0", 3, 4);
        Edge.is(x.say(2, 0, 0), 3);
        Edge.is(x.say(2, 0, 0), -3);
    }

    private static void accounts() {
        EarPaper x = new EarPaper();
        told(x, "10", 1, 0);
        told(x, "3", 0, 1);
        told(x, "100", 1, 2);
        x.pass(4);
        Edge.is(x.account(0, 0), 10);
        Edge.is(x.account(1, 1), 7);
        Edge.is(x.account(0, 1), 17);
        Edge.is(x.account(2, 3), 194);
        Edge.is(x.account(0, 3), 211);
        Edge.is(x.account(3, 3), 97);
    }

    /** Minute by minute it is the same as in one sum: over hours, terms that begin, ages, and minutes of all kinds. */
    private static void accountsInParts() {
        EarPaper x = new EarPaper();
        told(x, "1000", 1, 90);
        told(x, "h*7+1", 1, 3);
        told(x, "a*10+k", 0, 30);
        told(x, "s*3+m+w+v", 1, 121);
        told(x, "5", 0, 100);
        x.home(0, 1, 5, 2);
        x.home(0, 2, 1, 6);
        x.pass(119);
        x.stage(15);
        x.weather(4);
        x.stage(25);
        x.stage(35);
        x.pass(3);
        long sum = 0;
        for (int minute = 0; minute < 125; minute++) {
            long one = x.worth(1, minute) - x.worth(0, minute);
            Edge.is(one, paidLessOwed(minute));
            sum += one;
        }
        Edge.is(x.account(0, 124), sum);
        Edge.is(x.account(0, 59) + x.account(60, 124), sum);
        Edge.is(x.account(0, 89) + x.account(90, 124), sum);
        Edge.is(x.account(0, 120) + x.account(121, 124), sum);
    }

    private static long paidLessOwed(int minute) {
        long paid = minute < 3 ? 0 : minute < 90 ? minute / 60 * 7 + 1 : 1000;
        if (minute >= 121) {
            // Minute 121 is the stage of 35, in hour 2: the first home hears surely, the other one maybe.
            paid = minute == 121 ? 3 + 2 + 4 + 35 : 4;
        }
        long owed = minute < 30 ? 0 : minute < 100 ? (125 - minute) * 10 + 6 : 5;
        return paid - owed;
    }

    // ---- promises 18 to 21 ----

    private static void feed() {
        EarPaper x = new EarPaper();
        Edge.is(x.feed(1, 0x7f7f7f7f7f7f7f00L | '9'), 1);
        Edge.is(x.feed(2, 0xffffffffffff0000L | '-' | '2' << 8), 3);
        Edge.is(x.feed(8, 0x302b302b302b302bL), 11);
        Edge.is(x.term(0, 0), 1);
        x.pass(1);
        Edge.is(x.worth(0, 0), 7);
        for (int many = 1; many <= 8; many++) {
            EarPaper y = new EarPaper();
            Edge.is(y.feed(many, -1), many);
            Edge.is(y.count(9), many);
        }
    }

    private static void feedRefused() {
        Refused.with(-4, Scene.DAY, x -> x.feed(0, '1'));
        Refused.with(-4, Scene.DAY, x -> x.feed(-1, '1'));
        Refused.with(-4, Scene.DAY, x -> x.feed(Integer.MIN_VALUE, '1'));
        Refused.with(-6, Scene.DAY, x -> x.feed(9, '1'));
        Refused.with(-6, Scene.DAY, x -> x.feed(Integer.MAX_VALUE, '1'));
        Refused.with(-6, FULL_TAPE, x -> x.feed(1, '1'));
        Refused.with(-4, FULL_TAPE, x -> x.feed(0, '1'));
        Consumer<EarPaper> nearly = x -> Due.feed(x, "1+".repeat(28) + "1");
        Refused.with(-6, nearly, x -> x.feed(4, -1));
        EarPaper x = new EarPaper();
        nearly.accept(x);
        Edge.is(x.feed(3, '+' | '8' << 8 | '8' << 16), 60);
    }

    private static void term() {
        EarPaper x = fed("7");
        Edge.is(x.term(0, 0), 1);
        Edge.is(x.count(9), 0);
        Edge.is(x.term(0, 0), -20);
        Due.feed(x, "8");
        Edge.is(x.term(3, 9999), 2);
        Edge.is(x.count(5), 2);
        Edge.is(x.count(9), 0);
    }

    private static void termWithFault() {
        String[] texts = {"", "x", "1x", "(((((1", "1+".repeat(30)};
        int[] due = {-20, -20, -21, -26, -80};
        for (int i = 0; i < texts.length; i++) {
            EarPaper x = fed(texts[i]);
            Edge.is(x.term(0, 0), due[i]);
            Edge.is(x.count(5), 0);
            Edge.is(x.count(9), 0);
            for (int what = 11; what <= 16; what++) {
                Edge.is(x.count(what), 0);
            }
            x.pass(1);
            Edge.is(x.worth(0, 0), 0);
        }
    }

    private static void termRefused() {
        Refused.with(-2, Scene.DAY, x -> x.term(4, 12));
        Refused.with(-2, Scene.DAY, x -> x.term(-1, 12));
        Refused.with(-2, Scene.DAY, x -> x.term(4, 11));
        Refused.with(-2, Scene.DAY, x -> x.term(-1, 10000));
        Refused.with(-4, Scene.DAY, x -> x.term(0, 11));
        Refused.with(-4, Scene.DAY, x -> x.term(3, -1));
        Refused.with(-4, Scene.DAY, x -> x.term(3, Integer.MIN_VALUE));
        Refused.with(-6, Scene.DAY, x -> x.term(0, 10000));
        Refused.with(-6, Scene.DAY, x -> x.term(3, Integer.MAX_VALUE));
        Refused.with(-6, FULL_TERMS, x -> x.term(0, 0));
        Refused.with(-2, FULL_TERMS, x -> x.term(4, 0));
        Refused.with(-4, FULL_TERMS, x -> x.term(0, -1));
        // A fault in a text that is refused is not told.
        Refused.with(-6, Scene.BARE.andThen(x -> x.feed(1, 'x')), x -> x.term(0, 10000));
        Refused.with(-4, Scene.END, x -> x.term(0, 9998));
        EarPaper x = fed("x");
        Edge.is(x.term(0, 10000), -6);
        Edge.is(x.count(9), 1);
        Edge.is(x.term(0, 9999), -20);
    }

    private static void worth() {
        EarPaper x = new EarPaper();
        told(x, "0-99999*99999", 0, 0);
        told(x, "99999*99999", 1, 0);
        told(x, "a", 2, 0);
        x.stage(50);
        Edge.is(x.worth(0, 0), -1000000000);
        Edge.is(x.worth(1, 0), 1000000000);
        Edge.is(x.worth(2, 0), 1);
        x.pass(9998);
        Edge.is(x.worth(2, 0), 9999);
        Edge.is(x.worth(2, 9998), 1);
    }

    private static void worthRefused() {
        Refused.as(1000000001, -1, Scene.BARE, x -> x.worth(0, 0));
        Refused.as(1000000001, -1, Scene.DAY, x -> x.worth(0, 12));
        Refused.as(1000000001, -1, Scene.DAY, x -> x.worth(0, -1));
        Refused.as(1000000001, -1, Scene.DAY, x -> x.worth(2, Integer.MAX_VALUE));
        Refused.as(1000000002, -2, Scene.DAY, x -> x.worth(3, 11));
        Refused.as(1000000002, -2, Scene.DAY, x -> x.worth(-1, 0));
        Refused.as(1000000002, -2, Scene.DAY, x -> x.worth(Integer.MAX_VALUE, 0));
    }

    private static void account() {
        EarPaper x = new EarPaper();
        told(x, "99999*99999", 1, 0);
        told(x, "0-99999*99999", 0, 0);
        x.pass(1);
        Edge.is(x.account(0, 0), 2000000000);
        x.pass(9998);
        Edge.is(x.account(0, 9998), 9999 * 2000000000L);
        Edge.is(x.account(9998, 9998), 2000000000);
    }

    private static void accountRefused() {
        long nobody = 4000000000000000001L;
        Refused.as(nobody, -1, Scene.BARE, x -> x.account(0, 0));
        Refused.as(nobody, -1, Scene.DAY, x -> x.account(0, 12));
        Refused.as(nobody, -1, Scene.DAY, x -> x.account(12, 12));
        Refused.as(nobody, -1, Scene.DAY, x -> x.account(-1, 11));
        Refused.as(nobody, -1, Scene.DAY, x -> x.account(-2, -1));
        Refused.as(nobody, -1, Scene.DAY, x -> x.account(5, 4));
        Refused.as(nobody, -1, Scene.DAY, x -> x.account(Integer.MIN_VALUE, Integer.MAX_VALUE));
        Refused.as(nobody, -1, Scene.DAY, x -> x.account(Integer.MAX_VALUE, Integer.MIN_VALUE));
        EarPaper x = new EarPaper();
        Scene.DAY.accept(x);
        Edge.is(x.account(11, 11), 2 * 9 + 4 - 60 / 10 - 1);
        Edge.is(x.account(0, 0), -60 / 10 - 12);
    }
}
