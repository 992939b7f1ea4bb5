/** Promise 26: seeds. */
public final class SeedsTest {
    private static final Checks c = new Checks();

    public static void main(String[] args) {
        alwaysHeCan();
        draws();
        doorsAndPlaces();
        refusals();
        c.end();
    }

    private static void alwaysHeCan() {
        NeverBothDoors x = Checks.burrowOf("l0119;pp01,0;");
        c.due("one", x.seeds(1, 0), 1);
        c.due("thirty", x.seeds(30, -7), 30);
        c.due("in mind", x.person(0, 1), 0);
        c.due("in mind", x.count(2), 0);
        c.due("in mind", x.count(5), 0);
    }

    // The draws by the words of the document, in long arithmetic.
    private static int could(int n, int seed, int people, int[] places, int[][] locks) {
        long z = seed;
        int could = 0;
        for (int i = 0; i < n; i++) {
            z = (int) (z * 1664525L + 1013904223L);
            int person = (int) ((z & 0x7fffffffL) / 256 % people);
            z = (int) (z * 1664525L + 1013904223L);
            int[] lock = locks[(int) ((z & 0x7fffffffL) / 256 % locks.length)];
            if (places[person] == lock[0]) {
                places[person] = lock[1];
                could++;
            } else if (places[person] == lock[1]) {
                places[person] = lock[0];
                could++;
            }
        }
        return could;
    }

    private static void draws() {
        NeverBothDoors x = Checks.burrowOf("l0111;l1211;l2611;l3411;l0611;pp01,0;pw11,0;pc61,9;pt31,0;ps51,0;");
        int[][] locks = {{0, 1}, {1, 2}, {2, 6}, {3, 4}, {0, 6}};
        int[] seeds = {0, 1, 7, -1, 12345, Integer.MAX_VALUE, Integer.MIN_VALUE, -987654321};
        for (int seed : seeds) {
            for (int n = 1; n <= 30; n++) {
                int want = could(n, seed, 5, new int[] {0, 1, 6, 3, 5}, locks);
                c.due("seeds(" + n + ", " + seed + ")", x.seeds(n, seed), want);
            }
        }
    }

    private static void doorsAndPlaces() {
        NeverBothDoors x = Checks.burrowOf("l0111;pp01,0;");
        x.open(0, 2);
        c.due("a door is open", x.seeds(30, 3), 0);
        NeverBothDoors away = Checks.burrowOf("l0111;pp31,0;");
        c.due("not at it", away.seeds(30, 3), 0);
        c.dueRefusals("no refusal in mind", away, 0, 0, 0, 0, 0, 0);
    }

    private static void refusals() {
        NeverBothDoors x = new NeverBothDoors();
        c.due("below ahead of state", x.seeds(0, 0), -4);
        c.due("below", x.seeds(Integer.MIN_VALUE, 0), -4);
        c.due("above ahead of state", x.seeds(31, 0), -6);
        c.due("neither", x.seeds(1, 0), -3);
        Checks.told(x, "pp01,0;");
        c.due("no locks", x.seeds(30, 0), -3);
        NeverBothDoors y = Checks.burrowOf("l0111;");
        c.due("nobody", y.seeds(1, 0), -3);
        c.dueRefusals("seeds", x, 0, 0, 2, 2, 0, 1);
    }
}
