import java.util.ArrayDeque;
import java.util.ArrayList;
import java.util.Deque;
import java.util.List;
import java.util.regex.Matcher;
import java.util.regex.Pattern;

/** The document told a second time, with other means than the class: slow, and with nothing shared. */
final class Book {
    private static final class Peat {
        int wet;
        int footed;
        int dry;

        int all() {
            return wet + footed + dry;
        }
    }

    private static final class State {
        int day;
        boolean snow;
        int[] settings = {3, 10, 8};
        boolean[] widow = {false, false, false, false, true};
        int[] need = {300, 300, 300, 300, 300};
        int[] home = new int[5];
        int[] cut = new int[5];
        int[] given = new int[5];
        int[] gave = new int[5];
        int[] burnt = new int[5];
        int[] lacked = new int[5];
        int[] uncut = {2000, 2000, 2000, 2000};
        int[] carts = {40, 40, 40, 40};
        int[][] shares = {{0, 3, 3, 3}, {3, 0, 3, 3}, {3, 3, 0, 3}, {3, 3, 3, 0}, {0, 0, 0, 0}};
        Peat[][] peat = new Peat[5][4];
        int[] strength = {10, 12, 14, 16, 18, 20};
        int[][] place = new int[6][];
        int[] cutBy = new int[6];

        State() {
            for (Peat[] row : peat) {
                for (int b = 0; b < 4; b++) {
                    row[b] = new Peat();
                }
            }
        }

        State copy() {
            State s = new State();
            s.day = day;
            s.snow = snow;
            s.settings = settings.clone();
            s.widow = widow.clone();
            s.need = need.clone();
            s.home = home.clone();
            s.cut = cut.clone();
            s.given = given.clone();
            s.gave = gave.clone();
            s.burnt = burnt.clone();
            s.lacked = lacked.clone();
            s.uncut = uncut.clone();
            s.carts = carts.clone();
            s.strength = strength.clone();
            s.place = place.clone();
            s.cutBy = cutBy.clone();
            for (int h = 0; h < 5; h++) {
                s.shares[h] = shares[h].clone();
                for (int b = 0; b < 4; b++) {
                    s.peat[h][b].wet = peat[h][b].wet;
                    s.peat[h][b].footed = peat[h][b].footed;
                    s.peat[h][b].dry = peat[h][b].dry;
                }
            }
            return s;
        }
    }

    private static final Pattern PART = Pattern.compile("c[0-5]>[0-4]/[0-3]|r[0-5]|\\+(?:[1-9]|[1-5][0-9]|60)|\\*");

    private State now = new State();
    private final Deque<State> saved = new ArrayDeque<>();
    private State snapshot;
    private String buffer = "";

    private static void index(int i, int size) {
        if (i < 0 || i >= size) {
            throw new IndexOutOfBoundsException();
        }
    }

    private static void argument(boolean right) {
        if (!right) {
            throw new IllegalArgumentException();
        }
    }

    private static void state(boolean right) {
        if (!right) {
            throw new IllegalStateException();
        }
    }

    private void save() {
        saved.addLast(now.copy());
        if (saved.size() > 6) {
            saved.removeFirst();
        }
    }

    String buffer() {
        return buffer;
    }

    int hearth(int h, boolean isWidow, int need) {
        index(h, 5);
        argument(need >= 50 && need <= 900);
        save();
        int before = now.need[h];
        now.need[h] = need;
        now.widow[h] = isWidow;
        return before;
    }

    int track(int b, int carts) {
        index(b, 4);
        argument(carts >= 10 && carts <= 90);
        save();
        int before = now.carts[b];
        now.carts[b] = carts;
        return before;
    }

    int strength(int w, int strength) {
        index(w, 6);
        argument(strength >= 5 && strength <= 40);
        save();
        int before = now.strength[w];
        now.strength[w] = strength;
        return before;
    }

    private static int workers(State s, int h, int b) {
        int n = 0;
        for (int[] p : s.place) {
            if (p != null && (h < 0 || p[0] == h) && (b < 0 || p[1] == b)) {
                n++;
            }
        }
        return n;
    }

    private static int reason(State s, int h, int b) {
        if (s.shares[h][b] < 1) {
            return 1;
        }
        if (workers(s, h, b) >= s.shares[h][b]) {
            return 2;
        }
        if (s.uncut[b] < 1) {
            return 3;
        }
        return s.snow ? 4 : 0;
    }

    int whyNot(int w, int h, int b) {
        index(w, 6);
        index(h, 5);
        index(b, 4);
        return reason(now, h, b);
    }

    int work(int w, int h, int b) {
        state(whyNot(w, h, b) == 0);
        save();
        now.place[w] = new int[] {h, b};
        return workers(now, h, b);
    }

    int rest(int w) {
        index(w, 6);
        save();
        now.place[w] = null;
        return workers(now, -1, -1);
    }

    private static int sharesOf(State s, int h, int b) {
        if (h >= 0) {
            return s.shares[h][b];
        }
        int left = 12;
        for (int i = 0; i < 5; i++) {
            left -= s.shares[i][b];
        }
        return left;
    }

    int give(int from, int to, int b, int many) {
        index(from + 1, 6);
        index(to + 1, 6);
        index(b, 4);
        argument(from != to && many >= 1 && many <= 12);
        state(sharesOf(now, from, b) >= many);
        save();
        if (from >= 0) {
            now.shares[from][b] -= many;
        }
        if (to >= 0) {
            now.shares[to][b] += many;
        }
        return sharesOf(now, to, b);
    }

    private static void turn(State s) {
        s.snow = !s.snow;
        if (s.snow) {
            s.place = new int[6][];
        }
    }

    int snow() {
        save();
        turn(now);
        return now.snow ? 1 : 0;
    }

    private static int rain(State s, long day) {
        return (int) ((7 * day + s.settings[0]) % 10);
    }

    private static int aDay(State s) {
        s.day++;
        if (!s.snow) {
            for (int w = 0; w < 6; w++) {
                if (s.place[w] != null) {
                    int h = s.place[w][0];
                    int b = s.place[w][1];
                    int n = s.strength[w] > s.uncut[b] ? s.uncut[b] : s.strength[w];
                    s.uncut[b] -= n;
                    s.peat[h][b].wet += n;
                    s.cut[h] += n;
                    s.cutBy[w] += n;
                }
            }
        }
        int r = s.snow ? 0 : rain(s, s.day);
        for (Peat[] row : s.peat) {
            for (Peat p : row) {
                if (r > 6) {
                    int d = p.dry / 2 + p.dry % 2;
                    int f = p.footed / 2 + p.footed % 2;
                    p.dry -= d;
                    p.footed -= f;
                    p.wet += d + f;
                } else if (r <= 3) {
                    int d = p.footed / 3 + 1;
                    d = d > p.footed ? p.footed : d;
                    p.footed -= d;
                    p.dry += d;
                    int f = p.wet / 2 + p.wet % 2;
                    p.wet -= f;
                    p.footed += f;
                }
            }
        }
        if (s.snow) {
            for (int h = 0; h < 5; h++) {
                int n = s.home[h] < s.settings[2] ? s.home[h] : s.settings[2];
                s.home[h] -= n;
                s.burnt[h] += n;
                s.lacked[h] += s.settings[2] - n;
            }
            return 0;
        }
        return carting(s);
    }

    private static int carting(State s) {
        int came = 0;
        for (int b = 0; b < 4; b++) {
            int left = s.carts[b];
            for (int k = s.day; k < s.day + 5; k++) {
                int h = k % 5;
                int n = s.peat[h][b].dry > left ? left : s.peat[h][b].dry;
                left -= n;
                came += n;
                s.peat[h][b].dry -= n;
                int to = -1;
                for (int v = 4; v >= 0; v--) {
                    if (s.widow[v] && (to < 0 || s.home[v] <= s.home[to])) {
                        to = v;
                    }
                }
                int gift = s.widow[h] || to < 0 ? 0 : n * s.settings[1] / 100;
                s.home[h] += n - gift;
                s.gave[h] += gift;
                if (to >= 0) {
                    s.home[to] += gift;
                    s.given[to] += gift;
                }
            }
        }
        return came;
    }

    private static int days(State s, int days) {
        int came = 0;
        for (int d = 0; d < days; d++) {
            came += aDay(s);
        }
        return came;
    }

    int pass(int days) {
        argument(days >= 1 && days <= 60);
        save();
        return days(now, days);
    }

    int set(int setting, int value) {
        index(setting, 3);
        argument(value >= new int[] {0, 0, 1}[setting] && value <= new int[] {9, 50, 30}[setting]);
        save();
        int before = now.settings[setting];
        now.settings[setting] = value;
        return before;
    }

    int append(int code) {
        argument(code >= 33 && code <= 126);
        state(buffer.length() < 60);
        buffer += (char) code;
        return buffer.length();
    }

    int clearBuffer() {
        int length = buffer.length();
        buffer = "";
        return length;
    }

    /** A prefix of works is one that some ending makes whole. */
    int firstError() {
        String[] endings = {"", "*", "0>0/0", ">0/0", "0/0", "/0", "0", "1"};
        for (int n = 1; n <= buffer.length(); n++) {
            boolean right = false;
            for (String ending : endings) {
                right = right || isWorks(buffer.substring(0, n) + ending);
            }
            if (!right) {
                return n - 1;
            }
        }
        return buffer.length();
    }

    private static boolean isWorks(String text) {
        for (String part : text.split(";", -1)) {
            if (!PART.matcher(part).matches()) {
                return false;
            }
        }
        return true;
    }

    int play() {
        argument(isWorks(buffer));
        save();
        int done = 0;
        String[] parts = buffer.split(";");
        buffer = "";
        for (String part : parts) {
            if (part.equals("*")) {
                turn(now);
            } else if (part.startsWith("+")) {
                days(now, Integer.parseInt(part.substring(1)));
            } else {
                List<Integer> numbers = new ArrayList<>();
                Matcher m = Pattern.compile("[0-9]").matcher(part);
                while (m.find()) {
                    numbers.add(Integer.parseInt(m.group()));
                }
                if (part.startsWith("r")) {
                    now.place[numbers.get(0)] = null;
                } else if (reason(now, numbers.get(1), numbers.get(2)) != 0) {
                    return done;
                } else {
                    now.place[numbers.get(0)] = new int[] {numbers.get(1), numbers.get(2)};
                }
            }
            done++;
        }
        return done;
    }

    int undo() {
        state(!saved.isEmpty());
        now = saved.removeLast();
        return saved.size();
    }

    int keep() {
        snapshot = now.copy();
        return now.day;
    }

    int restore() {
        state(snapshot != null);
        save();
        now = snapshot.copy();
        return now.day;
    }

    private static int lying(State s, int h, int b) {
        int n = 0;
        for (int i = 0; i < 5; i++) {
            for (int j = 0; j < 4; j++) {
                if ((h < 0 || h == i) && (b < 0 || b == j)) {
                    n += s.peat[i][j].all();
                }
            }
        }
        return n;
    }

    private static int sum(int[] row) {
        int n = 0;
        for (int v : row) {
            n += v;
        }
        return n;
    }

    int hearthOf(int h, int what) {
        index(h, 5);
        argument(what >= 0 && what <= 11);
        State s = now;
        int later = s.need[h] - s.home[h] - lying(s, h, -1);
        int book = s.need[h] - (s.cut[h] + s.given[h] - s.gave[h] - s.burnt[h]);
        int less = s.need[h] - s.home[h];
        return new int[] {s.widow[h] ? 1 : 0, s.need[h], s.home[h], lying(s, h, -1), less < 0 ? 0 : less,
            later < 0 ? 0 : later, book < 0 ? 0 : book, s.cut[h], s.given[h], s.gave[h], s.burnt[h], s.lacked[h]}[what];
    }

    int bankOf(int b, int what) {
        index(b, 4);
        argument(what >= 0 && what <= 4);
        return new int[] {now.uncut[b], now.carts[b], sharesOf(now, -1, b), workers(now, -1, b), lying(now, -1, b)}[what];
    }

    int plot(int h, int b, int what) {
        index(h, 5);
        index(b, 4);
        argument(what >= 0 && what <= 4);
        Peat p = now.peat[h][b];
        return new int[] {now.shares[h][b], p.wet, p.footed, p.dry, workers(now, h, b)}[what];
    }

    int cutter(int w, int what) {
        index(w, 6);
        argument(what >= 0 && what <= 3);
        int[] p = now.place[w];
        return new int[] {now.strength[w], p == null ? -1 : p[0], p == null ? -1 : p[1], now.cutBy[w]}[what];
    }

    int rain(int day) {
        argument(day >= 0);
        return rain(now, day);
    }

    int count(int what) {
        argument(what >= 0 && what <= 12);
        int less = 0;
        int later = 0;
        for (int h = 0; h < 5; h++) {
            less += hearthOf(h, 4) > 0 ? 1 : 0;
            later += hearthOf(h, 5) > 0 ? 1 : 0;
        }
        return new int[] {now.day, now.snow ? 1 : 0, workers(now, -1, -1), sum(now.uncut), lying(now, -1, -1),
            sum(now.home), sum(now.burnt), less, later, now.settings[0], now.settings[1], now.settings[2],
            saved.size()}[what];
    }

    int ifPassed(int days, int what) {
        argument(days >= 1 && days <= 60 && what >= 0 && what <= 2);
        State s = now.copy();
        int came = days(s, days);
        int less = 0;
        for (int h = 0; h < 5; h++) {
            less += s.home[h] < s.need[h] ? 1 : 0;
        }
        return new int[] {came, less, sum(s.lacked) - sum(now.lacked)}[what];
    }

    int enoughIn(int h) {
        index(h, 5);
        State s = now.copy();
        int days = 0;
        while (s.home[h] < s.need[h]) {
            if (days == 200) {
                return -1;
            }
            aDay(s);
            days++;
        }
        return days;
    }

    int bestBank(int w, int h) {
        index(w, 6);
        index(h, 5);
        int best = -1;
        int most = 0;
        for (int b = 3; b >= 0; b--) {
            if (reason(now, h, b) == 0) {
                State s = now.copy();
                s.place[w] = new int[] {h, b};
                days(s, 20);
                if (s.home[h] >= most) {
                    best = b;
                    most = s.home[h];
                }
            }
        }
        return best;
    }

    double dryness() {
        int dry = 0;
        for (Peat[] row : now.peat) {
            for (Peat p : row) {
                dry += p.dry;
            }
        }
        int all = lying(now, -1, -1);
        return all == 0 ? 1.0 : (double) dry / all;
    }
}
