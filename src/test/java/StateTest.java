/** Promises 4 to 6: room, lock, person, with the kinds and what they breathe. */
public final class StateTest {
    private static final Checks c = new Checks();

    public static void main(String[] args) {
        rooms();
        locks();
        people();
        breath();
        sleepers();
        refusals();
        c.end();
    }

    private static void rooms() {
        NeverBothDoors x = Checks.burrowOf("r3,42;k37;pw31,0;pc32,0;pt33,0;pp61,9;");
        c.due("air", x.room(3, 0), 42);
        c.due("leak", x.room(3, 1), 7);
        c.due("people", x.room(3, 2), 3);
        c.due("breath", x.room(3, 3), 5);
        c.due("people elsewhere", x.room(5, 2), 0);
        c.due("breath elsewhere", x.room(5, 3), 0);
    }

    private static void locks() {
        NeverBothDoors x = Checks.burrowOf("l5238;l6001;");
        int[] first = {2, 5, 3, 8, 0};
        int[] second = {0, 6, 0, 1, 0};
        for (int what = 0; what < 5; what++) {
            c.due("lock 0 " + what, x.lock(0, what), first[what]);
            c.due("lock 1 " + what, x.lock(1, what), second[what]);
        }
        x.open(1, 2);
        c.due("the second open", x.lock(1, 4), 2);
        c.due("the other lock's", x.lock(0, 4), 0);
        x.open(0, 1);
        c.due("the first open", x.lock(0, 4), 1);
        x.open(1, 0);
        c.due("both shut", x.lock(1, 4), 0);
    }

    private static void people() {
        NeverBothDoors x = Checks.burrowOf("pp01,1;pc12,22;pw23,0;ph34,05;pt65,99;");
        int[][] due = {{0, 0, 1, 1, 2}, {1, 1, 2, 22, 1}, {2, 2, 3, 0, 4}, {3, 3, 4, 5, 3}, {4, 6, 5, 99, 0}};
        for (int person = 0; person < 5; person++) {
            for (int what = 0; what < 5; what++) {
                c.due("person " + person + " " + what, x.person(person, what), due[person][what]);
            }
        }
        NeverBothDoors y = Checks.burrowOf("ps53,4;");
        c.due("a sleeper", y.person(0, 0), 5);
    }

    private static void breath() {
        String kinds = "pcwht";
        int[] due = {2, 1, 4, 3, 0};
        for (int kind = 0; kind < 5; kind++) {
            NeverBothDoors in = Checks.burrowOf("p" + kinds.charAt(kind) + "21,0;");
            c.due("breath of " + kinds.charAt(kind), in.person(0, 4), due[kind]);
            c.due("room of " + kinds.charAt(kind), in.room(2, 3), due[kind]);
            NeverBothDoors outside = Checks.burrowOf("p" + kinds.charAt(kind) + "61,0;");
            c.due("outside, " + kinds.charAt(kind), outside.person(0, 4), 0);
        }
    }

    private static void sleepers() {
        NeverBothDoors alone = Checks.burrowOf("ps21,0;pp31,0;");
        c.due("alone", alone.person(0, 4), 0);
        c.due("alone, the room", alone.room(2, 3), 0);
        NeverBothDoors withCat = Checks.burrowOf("ps21,0;pt21,0;");
        c.due("with a cat", withCat.person(0, 4), 1);
        c.due("with a cat, the room", withCat.room(2, 3), 1);
        NeverBothDoors two = Checks.burrowOf("ps21,0;ps21,0;");
        c.due("two sleepers", two.person(1, 4), 1);
        c.due("two sleepers, the room", two.room(2, 3), 2);
        NeverBothDoors outside = Checks.burrowOf("ps61,0;pp61,0;");
        c.due("outside with another", outside.person(0, 4), 0);
    }

    private static void refusals() {
        NeverBothDoors x = Checks.burrowOf("pp01,0;l0111;");
        c.due("room(-1)", x.room(-1, 0), -1);
        c.due("room(6)", x.room(6, 0), -1);
        c.due("room(6, 9)", x.room(6, 9), -1);
        c.due("room(least)", x.room(Integer.MIN_VALUE, 0), -1);
        c.due("room(0, 4)", x.room(0, 4), -2);
        c.due("room(0, -1)", x.room(0, -1), -2);
        c.due("lock(-1)", x.lock(-1, 0), -1);
        c.due("lock(1, 9)", x.lock(1, 9), -1);
        c.due("lock(7)", x.lock(7, 0), -1);
        c.due("lock(0, 5)", x.lock(0, 5), -2);
        c.due("lock(0, -1)", x.lock(0, -1), -2);
        c.due("person(-1)", x.person(-1, 0), -1);
        c.due("person(1, 9)", x.person(1, 9), -1);
        c.due("person(5)", x.person(5, 0), -1);
        c.due("person(0, 5)", x.person(0, 5), -2);
        c.due("person(0, -1)", x.person(0, -1), -2);
        c.dueRefusals("state", x, 10, 6, 0, 0, 0, 0);
    }
}
