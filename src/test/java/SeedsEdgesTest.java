import java.math.BigInteger;

/** Boundary cases of promise 26: seeds. */
public final class SeedsEdgesTest {
    private static final BigInteger WHOLE = BigInteger.ONE.shiftLeft(32);
    private static final BigInteger TIMES = BigInteger.valueOf(1664525);
    private static final BigInteger AND = BigInteger.valueOf(1013904223);
    // Around 0, the ends of the ints, and seeds whose next ones stand beside the ends.
    private static final int[] SEEDS = {0, 1, -1, 2, 255, 256, 257, -256, Edges.LEAST, Edges.LEAST + 1, Edges.GREATEST,
        Edges.GREATEST - 1, 7, 12345, -987654321, 1664525, 1013904223, before(Edges.LEAST), before(Edges.GREATEST),
        before(0), before(-1), before(255), before(256), before(-256), before(before(Edges.LEAST)), before(before(-1))};
    private static final Checks c = new Checks();

    public static void main(String[] args) {
        seedsBeforeTheEnds();
        promise26LeastAndGreatest();
        promise26WhoAndWhich();
        promise26OneBehindTheOther();
        promise26IfHeCan();
        promise26InMind();
        promise26Refusals();
        promise26RefusalsAtOnce();
        c.end();
    }

    /** The int that wraps round to this one by one draw. */
    private static int before(int z) {
        return BigInteger.valueOf(z).subtract(AND).multiply(TIMES.modInverse(WHOLE)).intValue();
    }

    // In numbers without an end, brought back to 32 bits by hand.
    private static int next(int z) {
        return BigInteger.valueOf(z).multiply(TIMES).add(AND).mod(WHOLE).intValue();
    }

    private static int draw(int z, int below) {
        BigInteger withoutSign = BigInteger.valueOf(z).mod(WHOLE.shiftRight(1));
        return withoutSign.divide(BigInteger.valueOf(256)).mod(BigInteger.valueOf(below)).intValue();
    }

    private static void seedsBeforeTheEnds() {
        c.sentence(26, "z becomes z times 1664525 and 1013904223 (an int)");
        c.due("next of before(least)", next(before(Edges.LEAST)), Edges.LEAST);
        c.due("next of before(greatest)", next(before(Edges.GREATEST)), Edges.GREATEST);
        c.due("next of 0", next(0), 1013904223);
        c.due("next of 1", next(1), 1664525 + 1013904223);
    }

    private static void promise26LeastAndGreatest() {
        c.sentence(26, "n times (1 .. 30) one (a DRAW below PEOPLE) passes a LOCK (a DRAW below LOCKS)");
        NeverBothDoors x = Checks.burrowOf("l0109;pp01,0;");
        for (int n = 1; n <= 30; n++) {
            c.due("seeds(" + n + ", least)", x.seeds(n, Edges.LEAST), n);
            c.due("seeds(" + n + ", greatest)", x.seeds(n, Edges.GREATEST), n);
        }
        c.dueRefusals("taken", x, 0, 0, 0, 0, 0, 0);
    }

    /** Of so many people and locks just this one is at just this lock. */
    private static NeverBothDoors justThese(int people, int person, int locks, int lock) {
        StringBuilder text = new StringBuilder();
        for (int i = 0; i < people; i++) {
            text.append(i == person ? "pt01,0;" : "pt51,0;");
        }
        for (int i = 0; i < locks; i++) {
            text.append(i == lock ? "l0101;" : "l2301;");
        }
        return Checks.burrowOf(text.toString());
    }

    private static void promise26WhoAndWhich() {
        c.sentence(26, "(z without its sign's bit by 256, cut) modulo m");
        for (int people = 1; people <= 5; people++) {
            for (int locks = 1; locks <= 7; locks++) {
                for (int person = 0; person < people; person++) {
                    for (int lock = 0; lock < locks; lock++) {
                        dueWhoAndWhich(people, person, locks, lock);
                    }
                }
            }
        }
    }

    private static void dueWhoAndWhich(int people, int person, int locks, int lock) {
        NeverBothDoors x = justThese(people, person, locks, lock);
        for (int seed : SEEDS) {
            int first = next(seed);
            boolean drawn = draw(first, people) == person && draw(next(first), locks) == lock;
            String call = "seeds(1, " + seed + ") of " + people + " and " + locks + ", " + person + " at " + lock;
            c.due(call, x.seeds(1, seed), drawn ? 1 : 0);
        }
    }

    private static int could(int n, int seed, int[] at, int[][] locks) {
        int z = seed;
        int could = 0;
        for (int i = 0; i < n; i++) {
            z = next(z);
            int person = draw(z, at.length);
            z = next(z);
            int[] lock = locks[draw(z, locks.length)];
            if (at[person] == lock[0] || at[person] == lock[1]) {
                at[person] = lock[0] + lock[1] - at[person];
                could++;
            }
        }
        return could;
    }

    private static void promise26OneBehindTheOther() {
        c.sentence(26, "if he can, in mind: how many could");
        NeverBothDoors x = Checks.burrowOf("l0119;l1219;l2619;l3411;l0611;pp01,0;pw11,0;pc61,9;pt31,0;ps51,0;");
        int[][] locks = {{0, 1}, {1, 2}, {2, 6}, {3, 4}, {0, 6}};
        for (int seed : SEEDS) {
            for (int n : new int[] {1, 2, 3, 7, 29, 30}) {
                c.due("seeds(" + n + ", " + seed + ")", x.seeds(n, seed), could(n, seed, new int[] {0, 1, 6, 3, 5}, locks));
            }
        }
    }

    private static void promise26IfHeCan() {
        c.sentence(26, "passes a LOCK (a DRAW below LOCKS), if he can");
        c.due("not at it", Checks.burrowOf("l0101;pt21,0;").seeds(30, 0), 0);
        for (int door = 1; door <= 2; door++) {
            NeverBothDoors x = Checks.burrowOf("l0101;pt01,0;");
            x.open(0, door);
            c.due("door " + door + " open", x.seeds(30, 0), 0);
            x.open(0, 0);
            c.due("shut again", x.seeds(30, 0), 30);
        }
    }

    private static void promise26InMind() {
        c.sentence(26, "in mind: how many could");
        NeverBothDoors x = Edges.lived();
        x.seeds(30, 5);
        Edges.dueSame(c, "seeds(30, 5)", x, Edges.lived());
        NeverBothDoors late = Checks.burrowOf("l0109;pt01,0;");
        Edges.atMinute(late, 999);
        c.due("minute has no greatest number in mind", late.seeds(30, 0), 30);
        c.due("minute", late.count(2), 999);
        NeverBothDoors again = Edges.lived();
        c.due("the same seed, the same answer", again.seeds(30, 5), again.seeds(30, 5));
    }

    private static void promise26Refusals() {
        c.sentence(26, "SEEDS. -4; -6 30; -3 there are no PEOPLE, no LOCKS.");
        Edges.refused(c, Edges::lived, "seeds(0, 0)", x -> x.seeds(0, 0), -4);
        Edges.refused(c, Edges::lived, "seeds(-1, 0)", x -> x.seeds(-1, 0), -4);
        Edges.refused(c, Edges::lived, "seeds(least, 0)", x -> x.seeds(Edges.LEAST, 0), -4);
        Edges.refused(c, Edges::lived, "seeds(31, 0)", x -> x.seeds(31, 0), -6);
        Edges.refused(c, Edges::lived, "seeds(greatest, 0)", x -> x.seeds(Edges.GREATEST, 0), -6);
        Edges.refused(c, NeverBothDoors::new, "seeds(1, 0), neither", x -> x.seeds(1, 0), -3);
        Edges.refused(c, () -> Checks.burrowOf("l0111;"), "seeds(1, 0), no people", x -> x.seeds(1, 0), -3);
        Edges.refused(c, () -> Checks.burrowOf("pp01,0;"), "seeds(30, 0), no locks", x -> x.seeds(30, 0), -3);
    }

    private static void promise26RefusalsAtOnce() {
        c.sentence(26, "-4; -6 30; -3 there are no PEOPLE, no LOCKS.");
        Edges.refused(c, NeverBothDoors::new, "below, and neither", x -> x.seeds(0, 0), -4);
        Edges.refused(c, () -> Checks.burrowOf("l0111;"), "below, and no people", x -> x.seeds(-1, 0), -4);
        Edges.refused(c, () -> Checks.burrowOf("pp01,0;"), "below, and no locks", x -> x.seeds(0, 0), -4);
        Edges.refused(c, NeverBothDoors::new, "above, and neither", x -> x.seeds(31, 0), -6);
        Edges.refused(c, () -> Checks.burrowOf("l0111;"), "above, and no people", x -> x.seeds(31, 0), -6);
        Edges.refused(c, () -> Checks.burrowOf("pp01,0;"), "above, and no locks", x -> x.seeds(31, 0), -6);
    }
}
