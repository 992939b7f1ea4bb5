import java.util.Random;

/** All promises: long runs of calls, drawn by fixed seeds, each answered by the class and by the model. */
public final class ModelTest {
    private static final int RUNS = 400;
    private static final int CALLS = 512;
    private static final Checks c = new Checks();

    private final Random random;
    private final String name;
    private final NeverBothDoors x = new NeverBothDoors();
    private final Model m = new Model();
    private int calls = 0;

    private ModelTest(int seed) {
        random = new Random(seed);
        name = "run " + seed + ", call ";
    }

    public static void main(String[] args) {
        for (int seed = 0; seed < RUNS; seed++) {
            new ModelTest(seed).run();
        }
        c.end();
    }

    private void run() {
        while (calls < CALLS) {
            if (random.nextInt(25) == 0) {
                tellText();
            } else if (random.nextInt(40) == 0) {
                tellGauges();
            } else {
                oneCall(random.nextInt(28));
            }
        }
    }

    private void due(String call, int got, int want) {
        calls++;
        c.due(name + calls + ": " + call, got, want);
    }

    /** Mostly of the range from low to high, at times by its edges or far away. */
    private int number(int low, int high) {
        switch (random.nextInt(24)) {
            case 0: return low - 1;
            case 1: return high + 1;
            case 2: return random.nextInt(8) == 0 ? random.nextInt() : high;
            case 3: return random.nextInt(8) == 0 ? Integer.MIN_VALUE : low;
            case 4: return random.nextInt(8) == 0 ? Integer.MAX_VALUE : high;
            default: return low + random.nextInt(high - low + 1);
        }
    }

    private char digit(int low, int high) {
        return (char) ('0' + (random.nextInt(60) == 0 ? random.nextInt(10) : low + random.nextInt(high - low + 1)));
    }

    private void statement(StringBuilder to) {
        switch (random.nextInt(6)) {
            case 0:
                to.append('r').append(digit(0, 5)).append(',').append(random.nextInt(random.nextBoolean() ? 30 : 1000));
                break;
            case 1:
                to.append('k').append(digit(0, 5)).append(digit(0, 9));
                break;
            case 2:
            case 3:
                int one = random.nextInt(7);
                int two = (one + 1 + random.nextInt(6)) % 7;
                to.append('l').append(one).append(random.nextInt(50) == 0 ? one : two);
                to.append(digit(0, 9)).append(digit(1, 9));
                break;
            case 4:
                to.append('p').append("pcwhts".charAt(random.nextInt(6))).append(digit(0, 6)).append(digit(1, 5));
                to.append(',').append(random.nextInt(random.nextBoolean() ? 8 : 100));
                break;
            default:
                to.append('s').append(digit(1, 5)).append(digit(0, 2));
                break;
        }
        to.append(';');
    }

    private void spoil(StringBuilder text) {
        int at = random.nextInt(text.length());
        switch (random.nextInt(4)) {
            case 0: text.setLength(at); break;
            case 1: text.deleteCharAt(at); break;
            case 2: text.setCharAt(at, "rklpscwht,;0123456789 x".charAt(random.nextInt(23))); break;
            default: text.insert(at, "rklpscwht,;0123456789".charAt(random.nextInt(21))); break;
        }
    }

    private void tellText() {
        StringBuilder text = new StringBuilder();
        int statements = 1 + random.nextInt(random.nextInt(10) == 0 ? 22 : 8);
        for (int i = 0; i < statements; i++) {
            statement(text);
        }
        if (random.nextInt(5) == 0) {
            spoil(text);
        }
        for (int i = 0; i < text.length() && calls < CALLS - 1; i++) {
            char sign = text.charAt(i);
            due("letter(" + (int) sign + ")", x.letter(sign), m.letter(sign));
        }
        due("burrow() of " + text, x.burrow(), m.burrow());
    }

    /** A row as it may be behind n minutes, so that gauges have something to find. */
    private void tellGauges() {
        int n = random.nextInt(100);
        due("clear()", x.clear(), m.clear());
        int other = random.nextInt(8);
        for (int r = 0; r < 6; r++) {
            int told = m.air(r, n);
            if (r == other) {
                told = Math.max(0, told + n * (m.leak[r] - random.nextInt(10)));
            }
            due("row(" + told + ")", x.row(told), m.row(told));
        }
        for (int what = 0; what < 3; what++) {
            due("gauges(" + n + ", " + what + ")", x.gauges(n, what), m.gauges(n, what));
        }
    }

    private void oneCall(int which) {
        int r = number(0, 5);
        int p = number(0, Math.max(1, m.beings.size()) - 1);
        int l = number(0, Math.max(1, m.locks.size()) - 1);
        int n = number(0, 99);
        switch (which) {
            case 0: int sign = number(0, 255); due("letter(" + sign + ")", x.letter(sign), m.letter(sign)); break;
            case 1: int w = number(0, 3); due("room(" + r + ", " + w + ")", x.room(r, w), m.room(r, w)); break;
            case 2: int w2 = number(0, 4); due("lock(" + l + ", " + w2 + ")", x.lock(l, w2), m.lock(l, w2)); break;
            case 3: int w3 = number(0, 4); due("person(" + p + ", " + w3 + ")", x.person(p, w3), m.person(p, w3)); break;
            case 4: int d = number(0, 2); due("open(" + l + ", " + d + ")", x.open(l, d), m.open(l, d)); break;
            case 5:
            case 6: due("passes(" + p + ", " + l + ")", x.passes(p, l), m.passes(p, l)); break;
            case 7: int few = number(1, random.nextInt(4) == 0 ? 99 : 5); due("minutes(" + few + ")", x.minutes(few), m.minutes(few)); break;
            case 8: int v = number(0, 9); due("leak(" + r + ", " + v + ")", x.leak(r, v), m.leak(r, v)); break;
            case 9: due("air(" + r + ", " + n + ")", x.air(r, n), m.air(r, n)); break;
            case 10: due("gasps(" + n + ")", x.gasps(n), m.gasps(n)); break;
            case 11: due("out()", x.out(), m.out()); break;
            case 12: int to = number(0, 6); due("way(" + r + ", " + to + ")", x.way(r, to), m.way(r, to)); break;
            case 13: int from = number(0, 6); due("soonest(" + from + ")", x.soonest(from), m.soonest(from)); break;
            case 14: int f = number(0, 1); due("farthest(" + f + ")", x.farthest(f), m.farthest(f)); break;
            case 15: int o = number(0, 1); due("more(" + o + ")", x.more(o), m.more(o)); break;
            case 16:
                int start = number(0, 6);
                int places = number(0, 127);
                due("errands(" + start + ", " + places + ")", x.errands(start, places), m.errands(start, places));
                break;
            case 17: due("fitted()", x.fitted(), m.fitted()); break;
            case 18: due("bare()", x.bare(), m.bare()); break;
            case 19: due("row()", x.row(n * 10), m.row(n * 10)); break;
            case 20: int passing = 10 * p + l; due("row(" + passing + ")", x.row(passing), m.row(passing)); break;
            case 21: int g = number(0, 2); due("gauges(" + n + ", " + g + ")", x.gauges(n, g), m.gauges(n, g)); break;
            case 22: due("judge()", x.judge(), m.judge()); due("ends()", x.ends(), m.ends()); break;
            case 23: if (random.nextInt(3) == 0) due("clear()", x.clear(), m.clear()); break;
            case 24: int many = number(1, 30); due("seeds(" + many + ", " + n + ")", x.seeds(many, n), m.seeds(many, n)); break;
            case 25: if (random.nextInt(3) == 0) due("image()", x.image(), m.image()); break;
            case 26: if (random.nextInt(3) == 0) due("on()", x.on(), m.on()); break;
            default: int what = number(0, 17); due("count(" + what + ")", x.count(what), m.count(what)); break;
        }
    }
}
