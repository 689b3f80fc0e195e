import java.util.ArrayList;
import java.util.List;

/** A model of the document, word by word and without a short way, for ModelTest. */
final class PlainPaper {
    private static final int ALL = 16777215;
    private int now;
    private int weather;
    private int least = 10;
    private int longest = 60;
    private int rest = 30;
    private final int[] refused = new int[7];
    /** Of every minute: kind, reader, voice, of, weather. */
    private final int[][] minutes = new int[10000][];
    private final List<int[]> nodes = new ArrayList<>();
    private final List<int[]> cuts = new ArrayList<>();
    private final List<int[]> homes = new ArrayList<>();
    private final List<Integer> readers = new ArrayList<>();
    private final List<int[]> chances = new ArrayList<>();
    private final List<int[]> came = new ArrayList<>();
    private final List<Integer> adverts = new ArrayList<>();
    private final List<Integer> row = new ArrayList<>();
    private final List<Object[]> terms = new ArrayList<>();
    private String tape = "";

    PlainPaper() {
        nodes.add(new int[] {-1, 0, 0});
    }

    private int no(int number) {
        refused[-number]++;
        return number;
    }

    private static int range(int v, int low, int high) {
        return v < low ? -4 : v > high ? -6 : 0;
    }

    private static boolean in(int number, List<?> list) {
        return number >= 0 && number < list.size();
    }

    private boolean wentBy(int minute) {
        return minute >= 0 && minute < now;
    }

    int pass(int n) {
        if (n < 1) {
            return no(-4);
        }
        if ((long) now + n > 9999) {
            return no(-6);
        }
        for (int i = 0; i < n; i++) {
            minutes[now++] = new int[] {6, -9, 0, -9, weather};
        }
        return now;
    }

    int node(int on, int wire) {
        if (!in(on, nodes)) {
            return no(-1);
        }
        int wrong = range(wire, 1, 99);
        if (wrong != 0) {
            return no(wrong);
        }
        if (nodes.size() == 20) {
            return no(-6);
        }
        nodes.add(new int[] {on, wire, 0});
        return nodes.size() - 1;
    }

    int boost(int node, int v) {
        if (!in(node, nodes)) {
            return no(-1);
        }
        if (range(v, 0, 99) != 0) {
            return no(range(v, 0, 99));
        }
        int was = nodes.get(node)[2];
        nodes.get(node)[2] = v;
        return was;
    }

    int weather(int v) {
        if (range(v, 0, 20) != 0) {
            return no(range(v, 0, 20));
        }
        int was = weather;
        weather = v;
        return was;
    }

    int cut(int node, int from, int to) {
        if (node < 1 || node >= nodes.size()) {
            return no(-1);
        }
        if (from < now || to < from) {
            return no(-4);
        }
        if (from > 9999 || to > 9999 || cuts.size() == 40) {
            return no(-6);
        }
        cuts.add(new int[] {node, from, to});
        return cuts.size();
    }

    /** Without cuts for a minute below 0; the set tells which of the boosts that could be are. */
    private int loudAt(int node, int voice, int sky, int minute, int set) {
        if (node == 0) {
            return voice;
        }
        int[] one = nodes.get(node);
        int left = loudAt(one[0], voice, sky, minute, set) - (one[1] * (10 + sky)) / 10;
        if (left < 0) {
            left = 0;
        }
        for (int[] cut : cuts) {
            if (cut[0] == node && minute >= 0 && cut[1] <= minute && minute <= cut[2]) {
                left = 0;
            }
        }
        if (left == 0) {
            return 0;
        }
        left += one[2];
        for (int k = 0; k < chances.size(); k++) {
            if ((set >> k & 1) == 1 && chances.get(k)[0] == node) {
                left += chances.get(k)[1];
            }
        }
        return Math.min(999, left);
    }

    int loud(int node, int voice) {
        if (!in(node, nodes)) {
            return no(-1);
        }
        if (range(voice, 1, 999) != 0) {
            return no(range(voice, 1, 999));
        }
        return loudAt(node, voice, weather, now, 0);
    }

    int home(int node, int ears, int surely, int maybe) {
        if (!in(node, nodes)) {
            return no(-1);
        }
        int[] wrong = {range(ears, 1, 9), range(surely, 0, ALL), range(maybe, 0, ALL)};
        for (int number = -4; number >= -6; number -= 2) {
            for (int one : wrong) {
                if (one == number) {
                    return no(number);
                }
            }
        }
        if (homes.size() == 40) {
            return no(-6);
        }
        homes.add(new int[] {node, ears, surely, maybe, 0});
        return homes.size() - 1;
    }

    int least(int v) {
        if (range(v, 1, 99) != 0) {
            return no(range(v, 1, 99));
        }
        int was = least;
        least = v;
        return was;
    }

    private boolean hearsIt(int home, int voice, int sky, int minute, int set) {
        int[] one = homes.get(home);
        return loudAt(one[0], voice, sky, minute, set) / one[1] >= least;
    }

    int hears(int home, int voice) {
        if (!in(home, homes)) {
            return no(-1);
        }
        if (range(voice, 1, 999) != 0) {
            return no(range(voice, 1, 999));
        }
        return hearsIt(home, voice, weather, now, 0) ? 1 : 0;
    }

    int reader(int voice) {
        if (range(voice, 1, 999) != 0) {
            return no(range(voice, 1, 999));
        }
        if (readers.size() == 8) {
            return no(-6);
        }
        readers.add(voice);
        return readers.size() - 1;
    }

    int rests(int longest, int rest) {
        if (longest < 1 || rest < 0) {
            return no(-4);
        }
        if (longest > 240 || rest > 240) {
            return no(-6);
        }
        int was = this.longest * 1000 + this.rest;
        this.longest = longest;
        this.rest = rest;
        return was;
    }

    private boolean free(int reader) {
        int last = now - 1;
        while (last >= 0 && minutes[last][1] != reader) {
            last--;
        }
        int first = last;
        while (first >= 0 && minutes[first][1] == reader) {
            first--;
        }
        return last < 0 || last - first < longest || now - last > rest;
    }

    int mayRead(int reader) {
        if (!in(reader, readers)) {
            return no(-1);
        }
        return free(reader) ? 1 : 0;
    }

    int say(int kind, int reader, int of) {
        if (kind != 0 && kind != 1 && kind != 2 && kind != 4 && kind != 5) {
            return no(-2);
        }
        if (!in(reader, readers)) {
            return no(-1);
        }
        if ((kind == 1 || kind == 5) && !wentBy(of)) {
            return no(-1);
        }
        if (kind == 0 && of != -1 && !in(of, came)) {
            return no(-1);
        }
        if (!free(reader)) {
            return no(-3);
        }
        if (kind == 1 && "035".indexOf('0' + minutes[of][0]) < 0) {
            return no(-3);
        }
        if (kind == 5 && minutes[of][0] != 0) {
            return no(-3);
        }
        if (kind == 2) {
            int[] letters = {2, now / 60 % 24, readers.get(reader), 0, 0, weather, 0, homes.size()};
            String text = inForce(3, now);
            if (text != null && new Sum(text, letters).whole() <= 0) {
                return no(-3);
            }
        }
        if (now == 9999) {
            return no(-6);
        }
        int told = kind == 1 || kind == 5 || (kind == 0 && of != -1) ? of : -9;
        minutes[now] = new int[] {kind, reader, readers.get(reader), told, weather};
        return now++;
    }

    int stage(int voice) {
        if (range(voice, 1, 999) != 0) {
            return no(range(voice, 1, 999));
        }
        if (now == 9999) {
            return no(-6);
        }
        minutes[now] = new int[] {3, -9, voice, -9, weather};
        return now++;
    }

    private int how(int minute, int home) {
        int[] it = minutes[minute];
        if (it[0] == 6 || !hearsIt(home, it[2], it[4], minute, 0)) {
            return 0;
        }
        int hour = minute / 60 % 24;
        if (it[0] == 2 || (homes.get(home)[2] >> hour & 1) == 1) {
            return 2;
        }
        return homes.get(home)[3] >> hour & 1;
    }

    private int ears(int minute, int from) {
        int sum = 0;
        for (int home = 0; home < homes.size(); home++) {
            sum += how(minute, home) >= from ? 1 : 0;
        }
        return sum;
    }

    int minuteOf(int minute, int what) {
        if (!wentBy(minute)) {
            return no(-1);
        }
        if (what < 0 || what > 6) {
            return no(-2);
        }
        if (what == 4 || what == 5) {
            return ears(minute, what == 4 ? 2 : 1);
        }
        return minutes[minute][what == 6 ? 4 : what];
    }

    int heard(int minute, int home) {
        return !wentBy(minute) || !in(home, homes) ? no(-1) : how(minute, home);
    }

    int feed(int n, long bytes) {
        if (n < 1) {
            return no(-4);
        }
        if (n > 8 || tape.length() + n > 60) {
            return no(-6);
        }
        for (int i = 0; i < n; i++) {
            tape += (char) ((bytes >> 8 * i) & 0xff);
        }
        return tape.length();
    }

    int term(int purpose, int minute) {
        if (purpose < 0 || purpose > 3) {
            return no(-2);
        }
        if (minute < now) {
            return no(-4);
        }
        if (minute > 9999 || terms.size() == 30) {
            return no(-6);
        }
        String text = tape;
        tape = "";
        int place = fault(text);
        if (place >= 0) {
            return -20 - place;
        }
        terms.add(new Object[] {purpose, minute, text});
        return terms.size();
    }

    /** Byte by byte, with what may stand next; -1 if all of it may. */
    static int fault(String text) {
        boolean unit = true;
        int digits = 0;
        String open = "";
        for (int i = 0; i < text.length(); i++) {
            char c = text.charAt(i);
            boolean digit = c >= '0' && c <= '9';
            if (digits > 0 && digit) {
                if (++digits > 5) {
                    return i;
                }
                continue;
            }
            digits = 0;
            if (unit) {
                if (c == '(' && open.length() < 5) {
                    open += "n";
                } else if (digit || "khvsmwan".indexOf(c) >= 0) {
                    digits = digit ? 1 : 0;
                    unit = false;
                } else {
                    return i;
                }
            } else if ("+-*/".indexOf(c) >= 0) {
                unit = true;
            } else if ("<=>".indexOf(c) >= 0 && open.endsWith("n")) {
                open = open.substring(0, open.length() - 1) + "c";
                unit = true;
            } else if (c == ')' && open.length() > 0) {
                open = open.substring(0, open.length() - 1);
            } else {
                return i;
            }
        }
        return unit || open.length() > 0 ? text.length() : -1;
    }

    /** Works out a text that has no fault. */
    private static final class Sum {
        private final String text;
        private final int[] letters;
        private int at;

        Sum(String text, int[] letters) {
            this.text = text + " ";
            this.letters = letters;
        }

        int whole() {
            return (int) sum();
        }

        private static long held(long v) {
            return v < -1000000000L ? -1000000000L : v > 1000000000L ? 1000000000L : v;
        }

        private long sum() {
            long v = product();
            while (text.charAt(at) == '+' || text.charAt(at) == '-') {
                v = text.charAt(at++) == '+' ? held(v + product()) : held(v - product());
            }
            return v;
        }

        private long product() {
            long v = unit();
            while (text.charAt(at) == '*' || text.charAt(at) == '/') {
                boolean times = text.charAt(at++) == '*';
                long by = unit();
                v = held(times ? v * by : by == 0 ? 0 : v / by);
            }
            return v;
        }

        private long unit() {
            char c = text.charAt(at++);
            if (c == '(') {
                long v = sum();
                char sign = text.charAt(at++);
                if (sign != ')') {
                    long w = sum();
                    at++;
                    v = (sign == '<' ? v < w : sign == '=' ? v == w : v > w) ? 1 : 0;
                }
                return v;
            }
            if (c >= 'a') {
                return letters["khvsmwan".indexOf(c)];
            }
            long v = c - '0';
            while (text.charAt(at) >= '0' && text.charAt(at) <= '9') {
                v = 10 * v + text.charAt(at++) - '0';
            }
            return v;
        }
    }

    private String inForce(int purpose, int minute) {
        for (int from = minute; from >= 0; from--) {
            for (int i = terms.size() - 1; i >= 0; i--) {
                Object[] one = terms.get(i);
                if ((Integer) one[0] == purpose && (Integer) one[1] == from) {
                    return (String) one[2];
                }
            }
        }
        return null;
    }

    private int worthOf(int purpose, int minute) {
        String text = inForce(purpose, minute);
        if (text == null) {
            return purpose == 2 ? ears(minute, 1) : 0;
        }
        int[] it = minutes[minute];
        int[] letters = {it[0], minute / 60 % 24, it[2], ears(minute, 2), ears(minute, 1), it[4], now - minute,
            homes.size()};
        return new Sum(text, letters).whole();
    }

    int worth(int purpose, int minute) {
        if (!wentBy(minute)) {
            return 1000000000 - no(-1);
        }
        if (purpose < 0 || purpose > 2) {
            return 1000000000 - no(-2);
        }
        return worthOf(purpose, minute);
    }

    long account(int a, int b) {
        if (!wentBy(a) || !wentBy(b) || b < a) {
            return 4000000000000000000L - no(-1);
        }
        long sum = 0;
        for (int minute = a; minute <= b; minute++) {
            sum += worthOf(1, minute);
            sum -= worthOf(0, minute);
        }
        return sum;
    }

    int complain(int home, boolean on) {
        if (!in(home, homes)) {
            return no(-1);
        }
        int was = homes.get(home)[4];
        homes.get(home)[4] = on ? 1 : 0;
        return was == homes.get(home)[4] ? 0 : 1;
    }

    private boolean behindOneOf(int home, int set) {
        for (int node = homes.get(home)[0]; node != 0; node = nodes.get(node)[0]) {
            if ((set >> node & 1) == 1) {
                return true;
            }
        }
        return false;
    }

    int breaks(int what) {
        if (what < 0 || what > 2) {
            return no(-2);
        }
        int[] found = {99, 0, -9};
        for (int set = 0; set < 4096; set += 2) {
            boolean explains = set < 1 << Math.min(12, nodes.size());
            for (int home = 0; home < homes.size() && explains; home++) {
                explains = behindOneOf(home, set) == (homes.get(home)[4] == 1);
            }
            if (!explains) {
                continue;
            }
            if (Integer.bitCount(set) < found[0]) {
                found = new int[] {Integer.bitCount(set), 0, set};
            }
            found[1] += Integer.bitCount(set) == found[0] ? 1 : 0;
        }
        return found[0] == 99 ? -9 : found[what];
    }

    int could(int node, int gain) {
        if (!in(node, nodes)) {
            return no(-1);
        }
        for (int[] one : chances) {
            if (one[0] == node) {
                return no(-3);
            }
        }
        if (range(gain, 1, 99) != 0) {
            return no(range(gain, 1, 99));
        }
        if (chances.size() == 9) {
            return no(-6);
        }
        chances.add(new int[] {node, gain});
        return chances.size() - 1;
    }

    int boosts(int voice) {
        if (range(voice, 1, 999) != 0) {
            return no(range(voice, 1, 999));
        }
        for (int size = 0; size <= chances.size(); size++) {
            for (int set = 0; set < 1 << chances.size(); set++) {
                boolean all = Integer.bitCount(set) == size;
                for (int home = 0; home < homes.size() && all; home++) {
                    all = hearsIt(home, voice, weather, -1, set);
                }
                if (all) {
                    return set;
                }
            }
        }
        return -9;
    }

    private int covered(int minute, int hours, int voice) {
        int sum = 0;
        for (int home = 0; home < homes.size(); home++) {
            sum += how(minute, home) > 0 && (homes.get(home)[2] & hours) != 0
                && hearsIt(home, voice, weather, -1, 0) ? 1 : 0;
        }
        return sum;
    }

    private int correctionRefused(int minute, int hours, int voice) {
        if (!wentBy(minute)) {
            return no(-1);
        }
        if (hours < 0 || voice < 1) {
            return no(-4);
        }
        return hours > ALL || voice > 999 ? no(-6) : 0;
    }

    int covers(int minute, int hours, int voice) {
        int wrong = correctionRefused(minute, hours, voice);
        return wrong != 0 ? wrong : covered(minute, hours, voice);
    }

    int rights(int minute, int hours, int voice) {
        int wrong = correctionRefused(minute, hours, voice);
        if (wrong != 0) {
            return wrong;
        }
        List<Integer> told = new ArrayList<>();
        for (int hour = 0; hour < 24; hour++) {
            if ((hours >> hour & 1) == 1) {
                told.add(hour);
            }
        }
        if (told.size() > 12) {
            return no(-6);
        }
        int wanted = worthOf(2, minute);
        for (int size = 0; size <= told.size(); size++) {
            for (int pick = 0; pick < 1 << told.size(); pick++) {
                if (Integer.bitCount(pick) != size) {
                    continue;
                }
                int set = 0;
                for (int k = 0; k < told.size(); k++) {
                    set |= (pick >> k & 1) << told.get(k);
                }
                if (covered(minute, set, voice) >= wanted) {
                    return set;
                }
            }
        }
        return -9;
    }

    int news(boolean sure) {
        if (came.size() == 40) {
            return no(-6);
        }
        came.add(new int[] {now, -1});
        return came.size() - 1;
    }

    int printed(int news, int minute) {
        if (!in(news, came)) {
            return no(-1);
        }
        if (came.get(news)[1] >= 0) {
            return no(-3);
        }
        if (range(minute, now, 9999) != 0) {
            return no(range(minute, now, 9999));
        }
        came.get(news)[1] = minute;
        return 1;
    }

    int lag(int minute) {
        if (!wentBy(minute)) {
            return no(-1);
        }
        if (minutes[minute][0] != 0) {
            return no(-3);
        }
        return minutes[minute][3] < 0 ? -9 : minute - came.get(minutes[minute][3])[0];
    }

    int fresh(int minute) {
        if (!wentBy(minute)) {
            return no(-1);
        }
        if (minutes[minute][0] != 0) {
            return no(-3);
        }
        int of = minutes[minute][3];
        if (of < 0) {
            return -9;
        }
        for (int earlier = 0; earlier < minute; earlier++) {
            if (minutes[earlier][0] == 0 && minutes[earlier][3] == of) {
                return 0;
            }
        }
        int print = came.get(of)[1];
        return print >= 0 && print <= minute ? 0 : 1;
    }

    int advert(int sort) {
        if (range(sort, 0, 9) != 0) {
            return no(range(sort, 0, 9));
        }
        if (adverts.size() == 200) {
            return no(-6);
        }
        adverts.add(sort);
        return (adverts.size() - 1) / 5;
    }

    int sold(int i, int place) {
        if (range(place, 0, 4) != 0) {
            return no(range(place, 0, 4));
        }
        long at = 5L * i + place;
        return i < 0 || at >= adverts.size() ? -9 : adverts.get((int) at);
    }

    int put(int v) {
        if (range(v, -32768, 32767) != 0) {
            return no(range(v, -32768, 32767));
        }
        if (row.size() == 60) {
            return no(-6);
        }
        row.add(v);
        return row.size();
    }

    int judge() {
        List<Integer> it = new ArrayList<>(row);
        row.clear();
        for (int place = 0; place < 5; place++) {
            if (place >= it.size() || range(it.get(place), 0, 9) != 0
                || (place > 0 && it.get(place).equals(it.get(place - 1)))) {
                return place;
            }
        }
        return it.size() > 5 ? 5 : -9;
    }

    int order(int a, int b, int c, int numbers) {
        if (a < 0 || b < 0 || c < 0 || numbers < 0) {
            return no(-4);
        }
        int[] many = new int[10];
        if (a > 9 || b > 9 || c > 9 || numbers > 555 || numbers / 10 % 10 > 5 || numbers % 10 > 5) {
            return no(-6);
        }
        if (numbers / 100 + numbers / 10 % 10 + numbers % 10 != 5 || a == b || b == c || a == c) {
            return no(-3);
        }
        many[a] = numbers / 100;
        many[b] = numbers / 10 % 10;
        many[c] = numbers % 10;
        return orderFrom(0, 0, -1, many);
    }

    private static int orderFrom(int place, int number, int ahead, int[] many) {
        if (place == 5) {
            return number;
        }
        for (int sort = 0; sort < 10; sort++) {
            if (sort != ahead && many[sort] > 0) {
                many[sort]--;
                int found = orderFrom(place + 1, 10 * number + sort, sort, many);
                many[sort]++;
                if (found >= 0) {
                    return found;
                }
            }
        }
        return -9;
    }

    int check(int minute) {
        if (!wentBy(minute) || minute + row.size() > now) {
            return no(-1);
        }
        List<Integer> it = new ArrayList<>(row);
        row.clear();
        for (int i = 0; i < it.size(); i++) {
            if (minutes[minute + i][0] != it.get(i)) {
                return i;
            }
        }
        return -9;
    }

    int count(int what) {
        int dead = 0;
        int soldOnes = 0;
        for (int minute = 0; minute < now; minute++) {
            dead += minutes[minute][0] == 6 ? 1 : 0;
            soldOnes += minutes[minute][0] == 4 ? 1 : 0;
        }
        int complaining = 0;
        for (int[] one : homes) {
            complaining += one[4];
        }
        int[] all = {now, nodes.size(), homes.size(), readers.size(), cuts.size(), terms.size(), came.size(),
            adverts.size(), dead, tape.length(), row.size(), refused[1], refused[2], refused[3], refused[4],
            refused[5], refused[6], complaining, soldOnes};
        return what < 0 || what >= all.length ? -9 : all[what];
    }
}
