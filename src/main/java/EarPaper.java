import java.util.ArrayList;
import java.util.Arrays;

/** A paper that reads itself to homes by wire, minute by minute. */
public final class EarPaper {
    private static final int NOBODY = -1;
    private static final int OTHER = -2;
    private static final int STATE = -3;
    private static final int BELOW = -4;
    private static final int ROOM = -6;
    private static final int NONE = -9;
    private static final int FAULT = -20;
    private static final int WORTH_REFUSED = 1000000000;
    private static final long ACCOUNT_REFUSED = 4000000000000000000L;

    private static final int READ = 0;
    private static final int AGAIN = 1;
    private static final int ALARM = 2;
    private static final int STAGE = 3;
    private static final int SOLD = 4;
    private static final int RIGHT = 5;
    private static final int DEAD = 6;

    private static final int OWED = 0;
    private static final int PAID = 1;
    private static final int RIGHTED = 2;
    private static final int BREAK = 3;

    private static final int LAST_MINUTE = 9999;
    private static final int NO_MINUTE = -1;
    private static final int HOUR_LENGTH = 60;
    private static final int DAY_HOURS = 24;
    private static final int ALL_HOURS = 16777215;
    private static final int MOST_NODES = 20;
    private static final int MOST_CUTS = 40;
    private static final int MOST_HOMES = 40;
    private static final int MOST_READERS = 8;
    private static final int MOST_TERMS = 30;
    private static final int MOST_NEWS = 40;
    private static final int MOST_ADVERTS = 200;
    private static final int MOST_CHANCES = 9;
    private static final int MOST_TOLD_HOURS = 12;
    private static final int MOST_BYTES = 60;
    private static final int MOST_NUMBERS = 60;
    private static final int LAST_BREAKABLE = 11;
    private static final int TOP_LOUD = 999;
    private static final int TOP_BOOST = 99;
    private static final int TOP_WIRE = 99;
    private static final int TOP_WEATHER = 20;
    private static final int TOP_EARS = 9;
    private static final int TOP_LEAST = 99;
    private static final int TOP_REST = 240;
    private static final int TOP_SORT = 9;
    private static final int PLACES = 5;
    private static final int DEEPEST_BRACKET = 5;
    private static final int LONGEST_NUMBER = 5;
    private static final int HELD = 1000000000;

    private final Net net = new Net();
    private final Log log = new Log();
    private final ArrayList<Reader> readers = new ArrayList<>();
    private final ArrayList<Term> terms = new ArrayList<>();
    private final ArrayList<News> allNews = new ArrayList<>();
    private final Text tape = new Text();
    private final Scale scale = new Scale();
    private final int[] adverts = new int[MOST_ADVERTS];
    private final int[] row = new int[MOST_NUMBERS];
    private final int[] refusals = new int[7];
    private int advertCount;
    private int rowLength;
    private int longest = 60;
    private int rest = 30;

    public EarPaper() {
    }

    // ---- the net ----

    public int pass(int n) {
        if (n < 1) {
            return refuse(BELOW);
        }
        if (n > LAST_MINUTE - log.now) {
            return refuse(ROOM);
        }
        log.goBy(new Span(log.now, n, DEAD, net.weather));
        return log.now;
    }

    public int node(int on, int wire) {
        Node hanger = net.nodeOf(on);
        if (hanger == null) {
            return refuse(NOBODY);
        }
        if (wire < 1) {
            return refuse(BELOW);
        }
        int number = net.nodes.size();
        if (wire > TOP_WIRE || number >= MOST_NODES) {
            return refuse(ROOM);
        }
        net.nodes.add(new Node(hanger, wire, number));
        return number;
    }

    public int boost(int node, int v) {
        Node boosted = net.nodeOf(node);
        if (boosted == null) {
            return refuse(NOBODY);
        }
        if (v < 0) {
            return refuse(BELOW);
        }
        if (v > TOP_BOOST) {
            return refuse(ROOM);
        }
        int was = boosted.boost;
        boosted.boost = v;
        return was;
    }

    public int weather(int v) {
        if (v < 0) {
            return refuse(BELOW);
        }
        if (v > TOP_WEATHER) {
            return refuse(ROOM);
        }
        int was = net.weather;
        net.weather = v;
        return was;
    }

    public int cut(int node, int from, int to) {
        Node below = net.nodeOf(node);
        if (below == null || below.on == null) {
            return refuse(NOBODY);
        }
        if (from < log.now || to < from) {
            return refuse(BELOW);
        }
        if (to > LAST_MINUTE || net.cuts.size() >= MOST_CUTS) {
            return refuse(ROOM);
        }
        net.cuts.add(new Cut(below, from, to));
        return net.cuts.size();
    }

    public int loud(int node, int voice) {
        Node end = net.nodeOf(node);
        if (end == null) {
            return refuse(NOBODY);
        }
        int wrong = voiceRefusal(voice);
        if (wrong != 0) {
            return refuse(wrong);
        }
        net.carry(voice, net.weather, log.now);
        return end.volume;
    }

    // ---- homes ----

    public int home(int node, int ears, int surely, int maybe) {
        Node at = net.nodeOf(node);
        if (at == null) {
            return refuse(NOBODY);
        }
        if (ears < 1 || surely < 0 || maybe < 0) {
            return refuse(BELOW);
        }
        int number = net.homes.size();
        if (ears > TOP_EARS || surely > ALL_HOURS || maybe > ALL_HOURS || number >= MOST_HOMES) {
            return refuse(ROOM);
        }
        net.homes.add(new Home(at, ears, surely, maybe));
        return number;
    }

    public int least(int v) {
        if (v < 1) {
            return refuse(BELOW);
        }
        if (v > TOP_LEAST) {
            return refuse(ROOM);
        }
        int was = net.least;
        net.least = v;
        return was;
    }

    public int hears(int home, int voice) {
        Home who = net.homeOf(home);
        if (who == null) {
            return refuse(NOBODY);
        }
        int wrong = voiceRefusal(voice);
        if (wrong != 0) {
            return refuse(wrong);
        }
        net.carry(voice, net.weather, log.now);
        return who.isReached(net.least) ? 1 : 0;
    }

    // ---- readers and minutes ----

    public int reader(int voice) {
        int wrong = voiceRefusal(voice);
        if (wrong != 0) {
            return refuse(wrong);
        }
        int number = readers.size();
        if (number >= MOST_READERS) {
            return refuse(ROOM);
        }
        readers.add(new Reader(voice));
        return number;
    }

    public int rests(int longest, int rest) {
        if (longest < 1 || rest < 0) {
            return refuse(BELOW);
        }
        if (longest > TOP_REST || rest > TOP_REST) {
            return refuse(ROOM);
        }
        int was = 1000 * this.longest + this.rest;
        this.longest = longest;
        this.rest = rest;
        return was;
    }

    public int mayRead(int reader) {
        Reader who = readerOf(reader);
        if (who == null) {
            return refuse(NOBODY);
        }
        return who.isFree(log.now, longest, rest) ? 1 : 0;
    }

    public int say(int kind, int reader, int of) {
        if (kind < READ || kind > RIGHT || kind == STAGE) {
            return refuse(OTHER);
        }
        Reader who = readerOf(reader);
        if (who == null || !isKnown(kind, of)) {
            return refuse(NOBODY);
        }
        if (!who.isFree(log.now, longest, rest) || !isOfItsKind(kind, of)) {
            return refuse(STATE);
        }
        if (kind == ALARM && !mayBreak(who)) {
            return refuse(STATE);
        }
        if (log.now >= LAST_MINUTE) {
            return refuse(ROOM);
        }
        int said = log.now;
        Span span = new Span(said, 1, kind, net.weather);
        span.reader = reader;
        span.voice = who.voice;
        span.of = tellsOf(kind) && of >= 0 ? of : NONE;
        log.goBy(span);
        who.readIn(said);
        markRead(kind, of, said);
        return said;
    }

    public int stage(int voice) {
        int wrong = voiceRefusal(voice);
        if (wrong != 0) {
            return refuse(wrong);
        }
        if (log.now >= LAST_MINUTE) {
            return refuse(ROOM);
        }
        int said = log.now;
        Span span = new Span(said, 1, STAGE, net.weather);
        span.voice = voice;
        log.goBy(span);
        return said;
    }

    public int minuteOf(int minute, int what) {
        Span span = log.spanOf(minute);
        if (span == null) {
            return refuse(NOBODY);
        }
        switch (what) {
            case 0:
                return span.kind;
            case 1:
                return span.reader;
            case 2:
                return span.voice;
            case 3:
                return span.of;
            case 4:
                net.tally(span, minute);
                return net.sure;
            case 5:
                net.tally(span, minute);
                return net.most;
            case 6:
                return span.weather;
            default:
                return refuse(OTHER);
        }
    }

    public int heard(int minute, int home) {
        Span span = log.spanOf(minute);
        Home who = net.homeOf(home);
        if (span == null || who == null) {
            return refuse(NOBODY);
        }
        net.carry(span.voice, span.weather, minute);
        return net.howHeard(who, span, minute);
    }

    // ---- terms ----

    public int feed(int n, long bytes) {
        if (n < 1) {
            return refuse(BELOW);
        }
        if (n > 8 || n > MOST_BYTES - tape.length) {
            return refuse(ROOM);
        }
        for (int i = 0; i < n; i++) {
            tape.take((int) (bytes >>> (8 * i)) & 255);
        }
        return tape.length;
    }

    public int term(int purpose, int minute) {
        if (purpose < OWED || purpose > BREAK) {
            return refuse(OTHER);
        }
        if (minute < log.now) {
            return refuse(BELOW);
        }
        if (minute > LAST_MINUTE || terms.size() >= MOST_TERMS) {
            return refuse(ROOM);
        }
        boolean stands = tape.parse();
        int place = tape.place;
        tape.length = 0;
        if (!stands) {
            return FAULT - place;
        }
        terms.add(new Term(purpose, minute, tape.madeCode()));
        return terms.size();
    }

    public int worth(int purpose, int minute) {
        Span span = log.spanOf(minute);
        if (span == null) {
            return WORTH_REFUSED - refuse(NOBODY);
        }
        if (purpose < OWED || purpose > RIGHTED) {
            return WORTH_REFUSED - refuse(OTHER);
        }
        return worthIn(purpose, span, minute);
    }

    public long account(int a, int b) {
        if (a < 0 || b >= log.now || b < a) {
            return ACCOUNT_REFUSED - refuse(NOBODY);
        }
        long sum = 0;
        int from = a;
        for (int turn = 0; turn <= LAST_MINUTE && from <= b; turn++) {
            Span span = log.spanOf(from);
            if (span == null) {
                break;
            }
            int to = Math.min(b, evenUntil(span, from));
            sum += sumOf(PAID, span, from, to) - sumOf(OWED, span, from, to);
            from = to + 1;
        }
        return sum;
    }

    // ---- breaks, boosts, corrections ----

    public int complain(int home, boolean on) {
        Home who = net.homeOf(home);
        if (who == null) {
            return refuse(NOBODY);
        }
        if (who.complains == on) {
            return 0;
        }
        who.complains = on;
        return 1;
    }

    public int breaks(int what) {
        if (what < 0 || what > 2) {
            return refuse(OTHER);
        }
        return net.explain(what);
    }

    public int could(int node, int gain) {
        Node raised = net.nodeOf(node);
        if (raised == null) {
            return refuse(NOBODY);
        }
        if (raised.gain > 0) {
            return refuse(STATE);
        }
        if (gain < 1) {
            return refuse(BELOW);
        }
        int number = net.chances.size();
        if (gain > TOP_BOOST || number >= MOST_CHANCES) {
            return refuse(ROOM);
        }
        raised.gain = gain;
        net.chances.add(raised);
        return number;
    }

    public int boosts(int voice) {
        int wrong = voiceRefusal(voice);
        if (wrong != 0) {
            return refuse(wrong);
        }
        return net.fewestBoosts(voice);
    }

    public int covers(int minute, int hours, int voice) {
        Span span = log.spanOf(minute);
        int wrong = correctionRefusal(span, hours, voice);
        if (wrong != 0 || span == null) {
            return refuse(wrong);
        }
        net.findListeners(span, minute, voice);
        return net.covered(hours);
    }

    public int rights(int minute, int hours, int voice) {
        Span span = log.spanOf(minute);
        int wrong = correctionRefusal(span, hours, voice);
        if (wrong != 0 || span == null) {
            return refuse(wrong);
        }
        if (Integer.bitCount(hours) > MOST_TOLD_HOURS) {
            return refuse(ROOM);
        }
        int wanted = worthIn(RIGHTED, span, minute);
        net.findListeners(span, minute, voice);
        return net.fewestHours(hours, wanted);
    }

    // ---- news ----

    /** Whether news are sure is told, but no promise asks for it again. */
    public int news(boolean sure) {
        int number = allNews.size();
        if (number >= MOST_NEWS) {
            return refuse(ROOM);
        }
        allNews.add(new News(log.now));
        return number;
    }

    public int printed(int news, int minute) {
        News told = newsOf(news);
        if (told == null) {
            return refuse(NOBODY);
        }
        if (told.printedIn != NO_MINUTE) {
            return refuse(STATE);
        }
        if (minute < log.now) {
            return refuse(BELOW);
        }
        if (minute > LAST_MINUTE) {
            return refuse(ROOM);
        }
        told.printedIn = minute;
        return 1;
    }

    public int lag(int minute) {
        Span span = log.spanOf(minute);
        int wrong = readRefusal(span);
        if (wrong != 0 || span == null) {
            return refuse(wrong);
        }
        News told = newsOf(span.of);
        return told == null ? NONE : minute - told.cameIn;
    }

    public int fresh(int minute) {
        Span span = log.spanOf(minute);
        int wrong = readRefusal(span);
        if (wrong != 0 || span == null) {
            return refuse(wrong);
        }
        News told = newsOf(span.of);
        if (told == null) {
            return NONE;
        }
        return told.isFreshIn(minute) ? 1 : 0;
    }

    // ---- adverts and the row ----

    public int advert(int sort) {
        if (sort < 0) {
            return refuse(BELOW);
        }
        if (sort > TOP_SORT || advertCount >= adverts.length) {
            return refuse(ROOM);
        }
        adverts[advertCount] = sort;
        int stands = advertCount / PLACES;
        advertCount++;
        return stands;
    }

    public int sold(int i, int place) {
        if (place < 0) {
            return refuse(BELOW);
        }
        if (place >= PLACES) {
            return refuse(ROOM);
        }
        if (i < 0 || i >= MOST_ADVERTS / PLACES) {
            return NONE;
        }
        int at = i * PLACES + place;
        return at < advertCount && at < adverts.length ? adverts[at] : NONE;
    }

    public int put(int v) {
        if (v < -32768) {
            return refuse(BELOW);
        }
        if (v > 32767 || rowLength >= row.length) {
            return refuse(ROOM);
        }
        row[rowLength] = v;
        rowLength++;
        return rowLength;
    }

    public int judge() {
        int length = rowLength;
        rowLength = 0;
        for (int place = 0; place < PLACES; place++) {
            if (place >= length || place >= row.length) {
                return place;
            }
            int sort = row[place];
            if (sort < 0 || sort > TOP_SORT || (place > 0 && row[place - 1] == sort)) {
                return place;
            }
        }
        return length > PLACES ? PLACES : NONE;
    }

    public int order(int a, int b, int c, int numbers) {
        if (a < 0 || b < 0 || c < 0 || numbers < 0) {
            return refuse(BELOW);
        }
        int ofA = numbers / 100;
        int ofB = numbers / 10 % 10;
        int ofC = numbers % 10;
        if (a > TOP_SORT || b > TOP_SORT || c > TOP_SORT) {
            return refuse(ROOM);
        }
        if (ofA > PLACES || ofB > PLACES || ofC > PLACES) {
            return refuse(ROOM);
        }
        if (ofA + ofB + ofC != PLACES || a == b || a == c || b == c) {
            return refuse(STATE);
        }
        return firstFair(10 * a + ofA, 10 * b + ofB, 10 * c + ofC);
    }

    public int check(int minute) {
        if (minute < 0 || minute >= log.now || rowLength > log.now - minute) {
            return refuse(NOBODY);
        }
        int length = rowLength;
        rowLength = 0;
        for (int i = 0; i < length && i < row.length; i++) {
            Span span = log.spanOf(minute + i);
            if (span == null || span.kind != row[i]) {
                return i;
            }
        }
        return NONE;
    }

    public int count(int what) {
        switch (what) {
            case 0:
                return log.now;
            case 1:
                return net.nodes.size();
            case 2:
                return net.homes.size();
            case 3:
                return readers.size();
            case 4:
                return net.cuts.size();
            case 5:
                return terms.size();
            case 6:
                return allNews.size();
            case 7:
                return advertCount;
            case 8:
                return log.deadOnes;
            case 9:
                return tape.length;
            case 10:
                return rowLength;
            case 17:
                return net.complaints();
            case 18:
                return log.soldOnes;
            default:
                return refusedSoFar(what);
        }
    }

    // ---- refusals ----

    private int refuse(int number) {
        int place = -number;
        if (place > 0 && place < refusals.length) {
            refusals[place]++;
        }
        return number;
    }

    private int refusedSoFar(int what) {
        if (what < 11 || what > 16) {
            return NONE;
        }
        int place = what - 10;
        return place < refusals.length ? refusals[place] : NONE;
    }

    private static int voiceRefusal(int voice) {
        if (voice < 1) {
            return BELOW;
        }
        return voice > TOP_LOUD ? ROOM : 0;
    }

    private static int correctionRefusal(Span span, int hours, int voice) {
        if (span == null) {
            return NOBODY;
        }
        if (hours < 0 || voice < 1) {
            return BELOW;
        }
        return hours > ALL_HOURS || voice > TOP_LOUD ? ROOM : 0;
    }

    private static int readRefusal(Span span) {
        if (span == null) {
            return NOBODY;
        }
        return span.kind == READ ? 0 : STATE;
    }

    // ---- what is said ----

    private Reader readerOf(int number) {
        return number >= 0 && number < readers.size() ? readers.get(number) : null;
    }

    private News newsOf(int number) {
        return number >= 0 && number < allNews.size() ? allNews.get(number) : null;
    }

    private static boolean tellsOf(int kind) {
        return kind == READ || kind == AGAIN || kind == RIGHT;
    }

    private boolean isKnown(int kind, int of) {
        if (kind == READ) {
            return of == -1 || newsOf(of) != null;
        }
        return !tellsOf(kind) || log.spanOf(of) != null;
    }

    private boolean isOfItsKind(int kind, int of) {
        if (kind != AGAIN && kind != RIGHT) {
            return true;
        }
        Span earlier = log.spanOf(of);
        if (earlier == null) {
            return false;
        }
        if (earlier.kind == READ) {
            return true;
        }
        return kind == AGAIN && (earlier.kind == STAGE || earlier.kind == RIGHT);
    }

    private void markRead(int kind, int of, int minute) {
        if (kind != READ) {
            return;
        }
        News told = newsOf(of);
        if (told != null && told.firstRead == NO_MINUTE) {
            told.firstRead = minute;
        }
    }

    // ---- what terms are worth ----

    private static int hourOf(int minute) {
        return minute / HOUR_LENGTH % DAY_HOURS;
    }

    private Term inForce(int purpose, int minute) {
        Term latest = null;
        for (int i = 0; i < terms.size(); i++) {
            Term one = terms.get(i);
            if (one.purpose != purpose || one.from > minute) {
                continue;
            }
            if (latest == null || one.from >= latest.from) {
                latest = one;
            }
        }
        return latest;
    }

    private boolean mayBreak(Reader who) {
        Term term = inForce(BREAK, log.now);
        if (term == null) {
            return true;
        }
        scale.kind = ALARM;
        scale.hour = hourOf(log.now);
        scale.voice = who.voice;
        scale.sure = 0;
        scale.most = 0;
        scale.weather = net.weather;
        scale.age = 0;
        scale.homes = net.homes.size();
        return scale.weigh(term.code) > 0;
    }

    private int worthIn(int purpose, Span span, int minute) {
        Term term = inForce(purpose, minute);
        if (term != null) {
            return valueOf(term, span, minute);
        }
        if (purpose != RIGHTED) {
            return 0;
        }
        net.tally(span, minute);
        return net.most;
    }

    private int valueOf(Term term, Span span, int minute) {
        if (term.asksWho) {
            net.tally(span, minute);
        }
        scale.kind = span.kind;
        scale.hour = hourOf(minute);
        scale.voice = span.voice;
        scale.sure = net.sure;
        scale.most = net.most;
        scale.weather = span.weather;
        scale.age = log.now - minute;
        scale.homes = net.homes.size();
        return scale.weigh(term.code);
    }

    /** The last minute up to which nothing but the age can change what a minute is worth. */
    private int evenUntil(Span span, int minute) {
        int last = Math.min(span.last, minute / HOUR_LENGTH * HOUR_LENGTH + HOUR_LENGTH - 1);
        for (int i = 0; i < terms.size(); i++) {
            int from = terms.get(i).from;
            if (from > minute && from <= last) {
                last = from - 1;
            }
        }
        return last;
    }

    private long sumOf(int purpose, Span span, int from, int to) {
        Term term = inForce(purpose, from);
        if (term == null) {
            return 0;
        }
        if (!term.asksAge) {
            return (long) valueOf(term, span, from) * (to - from + 1);
        }
        long sum = 0;
        for (int minute = from; minute <= to; minute++) {
            sum += valueOf(term, span, minute);
        }
        return sum;
    }

    // ---- orders of adverts ----

    /** Each of the three is ten times a sort and how many there are of it. */
    private static int firstFair(int one, int two, int three) {
        int low = Math.min(one, Math.min(two, three));
        int high = Math.max(one, Math.max(two, three));
        int middle = one + two + three - low - high;
        // Five digits of base three count through all orders, the least one first.
        for (int code = 0; code < 243; code++) {
            int number = fairOrder(code, low, middle, high);
            if (number != NONE) {
                return number;
            }
        }
        return NONE;
    }

    private static int fairOrder(int code, int low, int middle, int high) {
        int left = code;
        int behind = NONE;
        int number = 0;
        int ten = 1;
        int used = 0;
        for (int place = 0; place < PLACES; place++) {
            int digit = left % 3;
            if (digit == behind) {
                return NONE;
            }
            int told = digit == 0 ? low : digit == 1 ? middle : high;
            number += told / 10 * ten;
            used += digit == 0 ? 1 : digit == 1 ? 10 : 100;
            behind = digit;
            left /= 3;
            ten *= 10;
        }
        return used == low % 10 + 10 * (middle % 10) + 100 * (high % 10) ? number : NONE;
    }

    // ---- classes of its own ----

    private static final class Node {
        final Node on;
        final int wire;
        /** Bits of the nodes whose wires lie between it and the house, those that can be broken alone. */
        final int path;
        int boost;
        int gain;
        int extra;
        boolean severed;
        int volume;

        Node(Node on, int wire, int number) {
            this.on = on;
            this.wire = wire;
            int own = on == null || number > LAST_BREAKABLE ? 0 : 1 << number;
            this.path = on == null ? 0 : on.path | own;
        }

        /** The node on which it hangs has been given its volume before. */
        void receive(int voice, int weather) {
            if (on == null) {
                volume = voice;
                return;
            }
            int left = severed ? 0 : on.volume - wire * (10 + weather) / 10;
            volume = left > 0 ? Math.min(left + boost + extra, TOP_LOUD) : 0;
        }
    }

    private static final class Cut {
        final Node node;
        final int from;
        final int to;

        Cut(Node node, int from, int to) {
            this.node = node;
            this.from = from;
            this.to = to;
        }
    }

    private static final class Home {
        final Node at;
        final int ears;
        final int surely;
        final int maybe;
        boolean complains;

        Home(Node at, int ears, int surely, int maybe) {
            this.at = at;
            this.ears = ears;
            this.surely = surely;
            this.maybe = maybe;
        }

        /** The same as volume by ears, cut, being the least or more, without a division. */
        boolean isReached(int least) {
            return at.volume >= least * ears;
        }
    }

    private static final class Net {
        final ArrayList<Node> nodes = new ArrayList<>();
        final ArrayList<Cut> cuts = new ArrayList<>();
        final ArrayList<Home> homes = new ArrayList<>();
        final ArrayList<Node> chances = new ArrayList<>();
        int weather;
        int least = 10;
        int sure;
        int most;
        /** For each hour the homes, as bits, that would surely hear a correction in it. */
        final long[] listeners = new long[DAY_HOURS];

        Net() {
            nodes.add(new Node(null, 0, 0));
        }

        Node nodeOf(int number) {
            return number >= 0 && number < nodes.size() ? nodes.get(number) : null;
        }

        Home homeOf(int number) {
            return number >= 0 && number < homes.size() ? homes.get(number) : null;
        }

        /** Gives every node its volume; of no minute there are no cuts. */
        void carry(int voice, int weatherThen, int minute) {
            for (int i = 0; i < nodes.size(); i++) {
                nodes.get(i).severed = false;
            }
            for (int i = 0; i < cuts.size(); i++) {
                Cut one = cuts.get(i);
                if (one.from <= minute && minute <= one.to) {
                    one.node.severed = true;
                }
            }
            for (int i = 0; i < nodes.size(); i++) {
                nodes.get(i).receive(voice, weatherThen);
            }
        }

        /** 2 surely, 1 maybe, 0 not at all; the minute's voice has been carried before. */
        int howHeard(Home who, Span span, int minute) {
            if (span.kind == DEAD || !who.isReached(least)) {
                return 0;
            }
            int hour = 1 << hourOf(minute);
            if (span.kind == ALARM || (who.surely & hour) != 0) {
                return 2;
            }
            return (who.maybe & hour) != 0 ? 1 : 0;
        }

        void tally(Span span, int minute) {
            sure = 0;
            most = 0;
            if (span.kind == DEAD) {
                return;
            }
            carry(span.voice, span.weather, minute);
            for (int i = 0; i < homes.size(); i++) {
                int how = howHeard(homes.get(i), span, minute);
                sure += how == 2 ? 1 : 0;
                most += how > 0 ? 1 : 0;
            }
        }

        int complaints() {
            int sum = 0;
            for (int i = 0; i < homes.size(); i++) {
                sum += homes.get(i).complains ? 1 : 0;
            }
            return sum;
        }

        /** What 0: how few nodes explain, 1: how many sets are as few, 2: the least of these. */
        int explain(int what) {
            int open = breakable();
            int fewest = MOST_NODES;
            int rivals = 0;
            int best = NONE;
            int set = 0;
            for (int turn = 0; turn < 1 << LAST_BREAKABLE; turn++) {
                int size = Integer.bitCount(set);
                if (size <= fewest && hitsAllComplaints(set)) {
                    rivals = size < fewest ? 1 : rivals + 1;
                    best = size < fewest ? set : best;
                    fewest = size;
                }
                if (set == open) {
                    break;
                }
                set = (set - open) & open;
            }
            if (best == NONE) {
                return NONE;
            }
            return what == 0 ? fewest : what == 1 ? rivals : best;
        }

        /** A wire above a home that does not complain can't be broken. */
        private int breakable() {
            int open = 0;
            for (int i = 1; i < nodes.size() && i <= LAST_BREAKABLE; i++) {
                open |= 1 << i;
            }
            for (int i = 0; i < homes.size(); i++) {
                Home one = homes.get(i);
                open &= one.complains ? open : ~one.at.path;
            }
            return open;
        }

        private boolean hitsAllComplaints(int set) {
            for (int i = 0; i < homes.size(); i++) {
                Home one = homes.get(i);
                if (one.complains && (one.at.path & set) == 0) {
                    return false;
                }
            }
            return true;
        }

        int fewestBoosts(int voice) {
            int all = (1 << Math.min(chances.size(), MOST_CHANCES)) - 1;
            int fewest = MOST_NODES;
            int best = NONE;
            // A boost more never makes a node less loud: where all of them fail, each set does.
            if (allReachedWith(all, voice)) {
                for (int set = 0; set <= all; set++) {
                    int size = Integer.bitCount(set);
                    if (size < fewest && allReachedWith(set, voice)) {
                        fewest = size;
                        best = set;
                    }
                }
            }
            raise(0);
            return best;
        }

        private void raise(int set) {
            for (int i = 0; i < chances.size(); i++) {
                Node one = chances.get(i);
                one.extra = (set >> i & 1) != 0 ? one.gain : 0;
            }
        }

        private boolean allReachedWith(int set, int voice) {
            raise(set);
            carry(voice, weather, NO_MINUTE);
            for (int i = 0; i < homes.size(); i++) {
                if (!homes.get(i).isReached(least)) {
                    return false;
                }
            }
            return true;
        }

        /** Fills the listeners with homes that heard a minute maybe and would hear a correction of it. */
        void findListeners(Span span, int minute, int voice) {
            carry(span.voice, span.weather, minute);
            long heardBy = 0;
            for (int i = 0; i < homes.size(); i++) {
                heardBy |= howHeard(homes.get(i), span, minute) > 0 ? 1L << i : 0;
            }
            carry(voice, weather, NO_MINUTE);
            Arrays.fill(listeners, 0L);
            for (int i = 0; i < homes.size(); i++) {
                Home one = homes.get(i);
                if ((heardBy >> i & 1) != 0 && one.isReached(least)) {
                    addListener(one.surely, 1L << i);
                }
            }
        }

        private void addListener(int hours, long bit) {
            for (int hour = 0; hour < listeners.length; hour++) {
                listeners[hour] |= (hours >> hour & 1) != 0 ? bit : 0;
            }
        }

        int covered(int hours) {
            long all = 0;
            int left = hours;
            for (int turn = 0; turn < DAY_HOURS && left != 0; turn++) {
                int hour = Integer.bitCount((left & -left) - 1);
                if (hour >= 0 && hour < listeners.length) {
                    all |= listeners[hour];
                }
                left &= left - 1;
            }
            return Long.bitCount(all);
        }

        int fewestHours(int hours, int wanted) {
            if (covered(hours) < wanted) {
                return NONE;
            }
            int fewest = DAY_HOURS + 1;
            int best = NONE;
            int set = 0;
            for (int turn = 0; turn < 1 << MOST_TOLD_HOURS; turn++) {
                int size = Integer.bitCount(set);
                if (size < fewest && covered(set) >= wanted) {
                    fewest = size;
                    best = set;
                }
                if (set == hours) {
                    break;
                }
                set = (set - hours) & hours;
            }
            return best;
        }
    }

    private static final class Reader {
        final int voice;
        int lastRead = NO_MINUTE;
        int onEnd;

        Reader(int voice) {
            this.voice = voice;
        }

        boolean isFree(int now, int longest, int rest) {
            return onEnd < longest || now > lastRead + rest;
        }

        void readIn(int minute) {
            onEnd = lastRead == minute - 1 ? onEnd + 1 : 1;
            lastRead = minute;
        }
    }

    /** One minute that was said, or dead ones that went by together. */
    private static final class Span {
        final int from;
        final int last;
        final int kind;
        final int weather;
        int reader = NONE;
        int voice;
        int of = NONE;

        Span(int from, int length, int kind, int weather) {
            this.from = from;
            this.last = from + length - 1;
            this.kind = kind;
            this.weather = weather;
        }
    }

    private static final class Log {
        final ArrayList<Span> spans = new ArrayList<>();
        int now;
        int deadOnes;
        int soldOnes;

        void goBy(Span span) {
            spans.add(span);
            now = span.last + 1;
            deadOnes += span.kind == DEAD ? span.last - span.from + 1 : 0;
            soldOnes += span.kind == SOLD ? 1 : 0;
        }

        /** Null for a minute that did not go by. */
        Span spanOf(int minute) {
            if (minute < 0 || minute >= now || spans.isEmpty()) {
                return null;
            }
            int low = 0;
            int high = spans.size() - 1;
            for (int turn = 0; turn < 32 && low < high; turn++) {
                int middle = (low + high + 1) / 2;
                if (spans.get(middle).from <= minute) {
                    low = middle;
                } else {
                    high = middle - 1;
                }
            }
            return spans.get(low);
        }
    }

    private static final class News {
        final int cameIn;
        int printedIn = NO_MINUTE;
        int firstRead = NO_MINUTE;

        News(int cameIn) {
            this.cameIn = cameIn;
        }

        boolean isFreshIn(int minute) {
            return firstRead == minute && (printedIn == NO_MINUTE || printedIn > minute);
        }
    }

    private static final class Term {
        final int purpose;
        final int from;
        final int[] code;
        final boolean asksWho;
        final boolean asksAge;

        Term(int purpose, int from, int[] code) {
            this.purpose = purpose;
            this.from = from;
            this.code = code;
            this.asksWho = holds(code, 's') || holds(code, 'm');
            this.asksAge = holds(code, 'a');
        }

        private static boolean holds(int[] code, char letter) {
            for (int one : code) {
                if (one == -letter) {
                    return true;
                }
            }
            return false;
        }
    }

    /**
     * The tape, and its way into code: a number stands for itself, a letter or a sign for its
     * negated byte, and a sign stands behind both of its sides.
     */
    private static final class Text {
        final int[] bytes = new int[MOST_BYTES];
        final int[] code = new int[MOST_BYTES];
        int length;
        int codeLength;
        int place;

        void take(int one) {
            if (length >= 0 && length < bytes.length) {
                bytes[length] = one;
                length++;
            }
        }

        /** If it does not stand, the place is that of the fault. */
        boolean parse() {
            place = 0;
            codeLength = 0;
            return parseSum(0) && place >= length;
        }

        /** A copy, as the next text is turned into code in the same room. */
        int[] madeCode() {
            int made = Math.max(0, Math.min(codeLength, code.length));
            return Arrays.copyOf(code, made);
        }

        /** The byte at the place, which no sign equals at the end. */
        private int next() {
            return place >= 0 && place < length && place < bytes.length ? bytes[place] : -1;
        }

        private void emit(int one) {
            if (codeLength >= 0 && codeLength < code.length) {
                code[codeLength] = one;
                codeLength++;
            }
        }

        private boolean parseSum(int depth) {
            if (!parseProduct(depth)) {
                return false;
            }
            for (int turn = 0; turn < MOST_BYTES; turn++) {
                int sign = next();
                if (sign != '+' && sign != '-') {
                    return true;
                }
                place++;
                if (!parseProduct(depth)) {
                    return false;
                }
                emit(-sign);
            }
            return false;
        }

        private boolean parseProduct(int depth) {
            if (!parseUnit(depth)) {
                return false;
            }
            for (int turn = 0; turn < MOST_BYTES; turn++) {
                int sign = next();
                if (sign != '*' && sign != '/') {
                    return true;
                }
                place++;
                if (!parseUnit(depth)) {
                    return false;
                }
                emit(-sign);
            }
            return false;
        }

        private boolean parseUnit(int depth) {
            int first = next();
            if (first == '(') {
                return depth < DEEPEST_BRACKET && parseBracket(depth + 1);
            }
            if (isDigit(first)) {
                parseNumber();
                return true;
            }
            if (!isLetter(first)) {
                return false;
            }
            emit(-first);
            place++;
            return true;
        }

        private boolean parseBracket(int depth) {
            place++;
            if (!parseSum(depth)) {
                return false;
            }
            int sign = next();
            if (sign == '<' || sign == '=' || sign == '>') {
                place++;
                if (!parseSum(depth)) {
                    return false;
                }
                emit(-sign);
            }
            if (next() != ')') {
                return false;
            }
            place++;
            return true;
        }

        private void parseNumber() {
            int number = 0;
            for (int digits = 0; digits < LONGEST_NUMBER && isDigit(next()); digits++) {
                number = 10 * number + next() - '0';
                place++;
            }
            emit(number);
        }

        private static boolean isDigit(int one) {
            return one >= '0' && one <= '9';
        }

        private static boolean isLetter(int one) {
            switch (one) {
                case 'k':
                case 'h':
                case 'v':
                case 's':
                case 'm':
                case 'w':
                case 'a':
                case 'n':
                    return true;
                default:
                    return false;
            }
        }
    }

    /** What the letters mean just now, and the room for working a text out. */
    private static final class Scale {
        final int[] stack = new int[MOST_BYTES];
        int top;
        int kind;
        int hour;
        int voice;
        int sure;
        int most;
        int weather;
        int age;
        int homes;

        int weigh(int[] code) {
            top = 0;
            for (int one : code) {
                if (one >= 0) {
                    push(one);
                } else if (Text.isLetter(-one)) {
                    push(letter(-one));
                } else {
                    join(-one);
                }
            }
            return top > 0 && top <= stack.length ? stack[top - 1] : 0;
        }

        private void push(int value) {
            if (top >= 0 && top < stack.length) {
                stack[top] = value;
                top++;
            }
        }

        private int letter(int one) {
            switch (one) {
                case 'k':
                    return kind;
                case 'h':
                    return hour;
                case 'v':
                    return voice;
                case 's':
                    return sure;
                case 'm':
                    return most;
                case 'w':
                    return weather;
                case 'a':
                    return age;
                default:
                    return homes;
            }
        }

        private void join(int sign) {
            if (top < 2 || top > stack.length) {
                return;
            }
            long worked = work(sign, stack[top - 2], stack[top - 1]);
            top--;
            stack[top - 1] = (int) Math.max(-HELD, Math.min(HELD, worked));
        }

        private static long work(int sign, long left, long right) {
            switch (sign) {
                case '+':
                    return left + right;
                case '-':
                    return left - right;
                case '*':
                    return left * right;
                case '/':
                    return right == 0 ? 0 : left / right;
                case '<':
                    return left < right ? 1 : 0;
                case '=':
                    return left == right ? 1 : 0;
                default:
                    return left > right ? 1 : 0;
            }
        }
    }
}
