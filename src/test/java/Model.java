import java.util.ArrayDeque;
import java.util.ArrayList;
import java.util.Arrays;
import java.util.List;
import java.util.PriorityQueue;
import java.util.regex.Matcher;
import java.util.regex.Pattern;

/** The document once more, in other ways than the class: by trying all, minute by minute, and by patterns. */
final class Model {
    static final class Lock {
        int low, high, size, cycle, door;
    }

    static final class Being {
        char kind;
        int at, fit, suit;
    }

    private static final Pattern STATEMENT = Pattern.compile("r([0-9]),([0-9]{1,3});|k([0-9])([0-9]);"
            + "|l([0-9])([0-9])([0-9])([0-9]);|p([pcwhts])([0-9])([0-9]),([0-9]{1,2});|s([0-9])([0-9]);");
    private static final Pattern BURROW = Pattern.compile("(?:" + STATEMENT.pattern() + ")+");

    int[] air = {100, 100, 100, 100, 100, 100};
    int[] leak = new int[6];
    List<Lock> locks = new ArrayList<>();
    List<Being> beings = new ArrayList<>();
    int[] suits = new int[6];
    int minute, gasped;
    Model image;
    StringBuilder letters = new StringBuilder();
    List<Integer> row = new ArrayList<>();
    int[] refused = new int[7];

    private int no(int number) {
        refused[-number]++;
        return number;
    }

    /** A copy of all that an image keeps. */
    private Model copy() {
        Model m = new Model();
        m.take(this);
        return m;
    }

    private void take(Model from) {
        air = from.air.clone();
        leak = from.leak.clone();
        suits = from.suits.clone();
        minute = from.minute;
        gasped = from.gasped;
        locks = new ArrayList<>();
        for (Lock l : from.locks) {
            Lock n = new Lock();
            n.low = l.low;
            n.high = l.high;
            n.size = l.size;
            n.cycle = l.cycle;
            n.door = l.door;
            locks.add(n);
        }
        beings = new ArrayList<>();
        for (Being b : from.beings) {
            Being n = new Being();
            n.kind = b.kind;
            n.at = b.at;
            n.fit = b.fit;
            n.suit = b.suit;
            beings.add(n);
        }
    }

    int letter(int c) {
        if (c < 0) return no(-4);
        if (c > 255 || letters.length() == 96) return no(-6);
        letters.append((char) c);
        return letters.length();
    }

    int burrow() {
        String text = letters.toString();
        letters.setLength(0);
        if (!BURROW.matcher(text).matches()) {
            for (int i = 1; i <= text.length(); i++) {
                Matcher m = BURROW.matcher(text.substring(0, i));
                if (!m.matches() && !m.hitEnd()) return -1000 - (i - 1);
            }
            return -1000 - text.length();
        }
        Model then = copy();
        Matcher m = STATEMENT.matcher(text);
        int n = 0;
        while (m.find()) {
            if (!then.comes(m)) return -2000 - m.start();
            n++;
        }
        take(then);
        return n;
    }

    private boolean comes(Matcher m) {
        if (m.group(1) != null) {
            int r = Integer.parseInt(m.group(1));
            if (r > 5) return false;
            air[r] = Integer.parseInt(m.group(2));
        } else if (m.group(3) != null) {
            int r = Integer.parseInt(m.group(3));
            if (r > 5) return false;
            leak[r] = Integer.parseInt(m.group(4));
        } else if (m.group(5) != null) {
            Lock l = new Lock();
            int one = Integer.parseInt(m.group(5));
            int two = Integer.parseInt(m.group(6));
            l.low = one < two ? one : two;
            l.high = one < two ? two : one;
            l.size = Integer.parseInt(m.group(7));
            l.cycle = Integer.parseInt(m.group(8));
            if (l.high > 6 || one == two || l.cycle == 0 || locks.size() == 7) return false;
            locks.add(l);
        } else if (m.group(9) != null) {
            Being b = new Being();
            b.kind = m.group(9).charAt(0);
            b.at = Integer.parseInt(m.group(10));
            b.fit = Integer.parseInt(m.group(11));
            b.suit = Integer.parseInt(m.group(12));
            if (b.at > 6 || b.fit == 0 || b.fit > 5 || beings.size() == 5) return false;
            beings.add(b);
        } else {
            int f = Integer.parseInt(m.group(13));
            int n = Integer.parseInt(m.group(14));
            if (f == 0 || f > 5 || n > 5) return false;
            suits[f] = n;
        }
        return true;
    }

    private int at(int place) {
        int n = 0;
        for (Being b : beings) {
            if (b.at == place) n++;
        }
        return n;
    }

    private int breath(Being b) {
        if (b.at == 6) return 0;
        int person = 2;
        int child = person / 2;
        int worker = 2 * person;
        switch (b.kind) {
            case 'p': return person;
            case 'c': return child;
            case 'w': return worker;
            case 'h': return worker - 1;
            case 't': return child - 1;
            default: return at(b.at) == 1 ? 0 : person - 1;
        }
    }

    private int breathIn(int room) {
        int n = 0;
        for (Being b : beings) {
            if (b.at == room) n += breath(b);
        }
        return n;
    }

    private int live(int n) {
        int gasping = 0;
        for (int i = 0; i < n; i++) {
            for (int r = 0; r < 6; r++) {
                air[r] -= leak[r] + breathIn(r);
                if (air[r] < 0) {
                    gasping += at(r);
                    air[r] = 0;
                }
            }
            for (Being b : beings) {
                if (b.at != 6) continue;
                if (b.suit == 0) gasping++;
                else b.suit--;
            }
            minute++;
        }
        gasped += gasping;
        return gasping;
    }

    int room(int r, int what) {
        if (r < 0 || r > 5) return no(-1);
        if (what < 0 || what > 3) return no(-2);
        return new int[] {air[r], leak[r], at(r), breathIn(r)}[what];
    }

    int lock(int i, int what) {
        if (i < 0 || i >= locks.size()) return no(-1);
        if (what < 0 || what > 4) return no(-2);
        Lock l = locks.get(i);
        return new int[] {l.low, l.high, l.size, l.cycle, l.door}[what];
    }

    int person(int i, int what) {
        if (i < 0 || i >= beings.size()) return no(-1);
        if (what < 0 || what > 4) return no(-2);
        Being b = beings.get(i);
        return new int[] {"pcwhts".indexOf(b.kind), b.at, b.fit, b.suit, breath(b)}[what];
    }

    int open(int i, int door) {
        if (i < 0 || i >= locks.size()) return no(-1);
        if (door < 0 || door > 2) return no(-2);
        Lock l = locks.get(i);
        if (door + l.door == 3) return no(-3);
        int was = l.door;
        l.door = door;
        return was;
    }

    private boolean can(int person, int lock) {
        if (person < 0 || person >= beings.size() || lock < 0 || lock >= locks.size()) return false;
        Lock l = locks.get(lock);
        int at = beings.get(person).at;
        return l.door == 0 && (at == l.low || at == l.high);
    }

    private void pass(int person, int lock) {
        Lock l = locks.get(lock);
        Being b = beings.get(person);
        b.at = l.low + l.high - b.at;
        if (l.high == 6) air[l.low] = air[l.low] < l.size ? 0 : air[l.low] - l.size;
        live(l.cycle);
    }

    int passes(int person, int lock) {
        if (person < 0 || person >= beings.size() || lock < 0 || lock >= locks.size()) return no(-1);
        if (!can(person, lock)) return no(-3);
        if (minute + locks.get(lock).cycle > 999) return no(-6);
        pass(person, lock);
        return beings.get(person).at;
    }

    int minutes(int n) {
        if (n < 1) return no(-4);
        if (n > 99 || minute + n > 999) return no(-6);
        return live(n);
    }

    int leak(int r, int v) {
        if (r < 0 || r > 5) return no(-1);
        if (v < 0) return no(-4);
        if (v > 9) return no(-6);
        int was = leak[r];
        leak[r] = v;
        return was;
    }

    int air(int r, int n) {
        if (r < 0 || r > 5) return no(-1);
        if (n < 0) return no(-4);
        if (n > 99) return no(-6);
        Model m = copy();
        m.live(n);
        return m.air[r];
    }

    int gasps(int n) {
        if (n < 0) return no(-4);
        if (n > 99) return no(-6);
        return copy().live(n);
    }

    int out() {
        for (int n = 1; n < 100; n++) {
            if (copy().live(n) > 0) return n;
        }
        return -9;
    }

    /** The fewest minutes from a place to have come by all told places, by the soonest first; -9. */
    private int walk(int from, int places) {
        int[][] done = new int[128][7];
        for (int[] d : done) Arrays.fill(d, Integer.MAX_VALUE);
        PriorityQueue<int[]> open = new PriorityQueue<>((x, y) -> x[0] - y[0]);
        open.add(new int[] {0, 1 << from, from});
        while (!open.isEmpty()) {
            int[] s = open.poll();
            if (s[0] >= done[s[1]][s[2]]) continue;
            done[s[1]][s[2]] = s[0];
            if ((s[1] & places) == places) return s[0];
            for (Lock l : locks) {
                if (l.low != s[2] && l.high != s[2]) continue;
                int to = l.low + l.high - s[2];
                open.add(new int[] {s[0] + l.cycle, s[1] | 1 << to, to});
            }
        }
        return -9;
    }

    int way(int from, int to) {
        if (from < 0 || from > 6 || to < 0 || to > 6) return no(-1);
        return walk(from, 1 << to);
    }

    int soonest(int from) {
        if (from < 0 || from > 6) return no(-1);
        int least = -9;
        for (int r = 0; r < 6; r++) {
            int w = walk(from, 1 << r);
            if (w >= 0 && (least < 0 || w < least)) least = w;
        }
        return least;
    }

    int farthest(int what) {
        if (what != 0 && what != 1) return no(-2);
        int room = -9;
        int longest = -9;
        for (int r = 0; r < 6; r++) {
            int w = walk(6, 1 << r);
            if (w > longest) {
                longest = w;
                room = r;
            }
        }
        return what == 0 ? room : longest;
    }

    int more(int what) {
        if (what != 0 && what != 1) return no(-2);
        int where = -9;
        int least = -9;
        for (int code = 1; code < 60; code++) {
            if (code / 10 >= code % 10 || code % 10 > 6) continue;
            Model m = copy();
            Lock l = new Lock();
            l.low = code / 10;
            l.high = code % 10;
            l.cycle = 1;
            m.locks.add(l);
            int longest = 0;
            for (int r = 0; r < 6 && longest >= 0; r++) {
                int w = m.walk(6, 1 << r);
                longest = w < 0 ? -9 : Math.max(longest, w);
            }
            if (longest >= 0 && (least < 0 || longest < least)) {
                least = longest;
                where = code;
            }
        }
        return what == 0 ? where : least;
    }

    int errands(int from, int places) {
        if (from < 0 || from > 6 || places < 0 || places > 127) return no(-1);
        return walk(from, places);
    }

    /** Each of people in turn takes a suit of his fit, or one more, or none: {how many, least bare bits}. */
    private int[] best(int person, int[] left) {
        if (person == beings.size()) return new int[] {0, 0};
        int[] best = best(person + 1, left).clone();
        best[1] |= 1 << person;
        int fit = beings.get(person).fit;
        for (int f = fit; f <= Math.min(5, fit + 1); f++) {
            if (left[f] == 0) continue;
            left[f]--;
            int[] with = best(person + 1, left);
            left[f]++;
            if (with[0] + 1 > best[0] || with[0] + 1 == best[0] && with[1] < best[1]) {
                best = new int[] {with[0] + 1, with[1]};
            }
        }
        return best;
    }

    int fitted() {
        return best(0, suits.clone())[0];
    }

    int bare() {
        return best(0, suits.clone())[1];
    }

    int row(int v) {
        if (v < 0) return no(-4);
        if (v > 999 || row.size() == 12) return no(-6);
        row.add(v);
        return row.size();
    }

    private boolean so(Model m, int n) {
        m.live(n);
        for (int r = 0; r < 6; r++) {
            if (m.air[r] != row.get(r)) return false;
        }
        return true;
    }

    int gauges(int n, int what) {
        if (n < 0) return no(-4);
        if (n > 99) return no(-6);
        if (what < 0 || what > 2) return no(-2);
        if (row.size() != 6) return no(-3);
        if (what == 2) return so(copy(), n) ? 1 : 0;
        ArrayDeque<Integer> found = new ArrayDeque<>();
        for (int r = 0; r < 6; r++) {
            for (int v = 0; v < 10; v++) {
                Model m = copy();
                m.leak[r] = v;
                if (v != leak[r] && so(m, n)) found.add(10 * r + v);
            }
        }
        return what == 0 ? found.size() : found.isEmpty() ? -9 : found.getFirst();
    }

    /** {the first of the row that can not be, gasps ahead of it}. */
    private int[] judged() {
        Model m = copy();
        for (int i = 0; i < row.size(); i++) {
            if (!m.can(row.get(i) / 10, row.get(i) % 10)) return new int[] {i, m.gasped - gasped};
            m.pass(row.get(i) / 10, row.get(i) % 10);
        }
        return new int[] {-9, m.gasped - gasped};
    }

    int judge() {
        return judged()[0];
    }

    int ends() {
        return judged()[1];
    }

    int clear() {
        int had = row.size();
        row.clear();
        return had;
    }

    int seeds(int n, int z) {
        if (n < 1) return no(-4);
        if (n > 30) return no(-6);
        if (beings.isEmpty() || locks.isEmpty()) return no(-3);
        Model m = copy();
        long seed = z;
        int could = 0;
        for (int i = 0; i < n; i++) {
            int[] drawn = new int[2];
            for (int d = 0; d < 2; d++) {
                seed = (int) (seed * 1664525L + 1013904223L);
                drawn[d] = (int) ((seed & 0x7fffffffL) / 256 % (d == 0 ? beings.size() : locks.size()));
            }
            if (m.can(drawn[0], drawn[1])) {
                m.pass(drawn[0], drawn[1]);
                could++;
            }
        }
        return could;
    }

    int image() {
        image = copy();
        return minute;
    }

    int on() {
        if (image == null) return no(-3);
        take(image);
        return minute;
    }

    int count(int what) {
        switch (what) {
            case 0: return locks.size();
            case 1: return beings.size();
            case 2: return minute;
            case 3: return Arrays.stream(air).sum();
            case 4: return Arrays.stream(leak).sum();
            case 5: return gasped;
            case 6: return row.size();
            case 7: return letters.length();
            default: return what >= 11 && what <= 16 ? refused[what - 10] : -9;
        }
    }
}
