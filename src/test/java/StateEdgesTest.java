/** Boundary cases of promises 4 to 6: room, lock, person. */
public final class StateEdgesTest {
    private static final Checks c = new Checks();

    public static void main(String[] args) {
        promise4LeastAndGreatest();
        promise4Nobody();
        promise4Refusals();
        promise5LeastAndGreatest();
        promise5Doors();
        promise5Refusals();
        promise6LeastAndGreatest();
        promise6Kinds();
        promise6Alone();
        promise6Outside();
        promise6Refusals();
        nothingChanges();
        c.end();
    }

    private static void promise4LeastAndGreatest() {
        c.sentence(4, "Of a ROOM: 0 AIR, 1 LEAK, 2 how many of PEOPLE are there, 3 how much these breathe in a MINUTE.");
        NeverBothDoors x = Checks.burrowOf("r0,0;k00;r5,999;k59;" + "pw51,0;".repeat(5));
        int[] least = {0, 0, 0, 0};
        int[] greatest = {999, 9, 5, 20};
        for (int what = 0; what < 4; what++) {
            c.due("room(0, " + what + ")", x.room(0, what), least[what]);
            c.due("room(5, " + what + ")", x.room(5, what), greatest[what]);
        }
        c.dueRefusals("none refused", x, 0, 0, 0, 0, 0, 0);
    }

    private static void promise4Nobody() {
        c.sentence(4, "2 how many of PEOPLE are there, 3 how much these breathe in a MINUTE");
        NeverBothDoors x = new NeverBothDoors();
        c.due("nobody yet", x.room(0, 2), 0);
        c.due("no breath yet", x.room(0, 3), 0);
        Checks.told(x, "pw61,0;pt01,0;");
        c.due("a cat is one of people", x.room(0, 2), 1);
        c.due("that breathes nothing", x.room(0, 3), 0);
        for (int room = 1; room < 6; room++) {
            c.due("one outside is not in room " + room, x.room(room, 2), 0);
        }
    }

    private static void promise4Refusals() {
        c.sentence(4, "3 how much these breathe in a MINUTE. -1; -2.");
        Edges.refused(c, Edges::lived, "room(-1, 0)", x -> x.room(-1, 0), -1);
        Edges.refused(c, Edges::lived, "room(6, 0), the outside", x -> x.room(6, 0), -1);
        Edges.refused(c, Edges::lived, "room(least, 3)", x -> x.room(Edges.LEAST, 3), -1);
        Edges.refused(c, Edges::lived, "room(greatest, 3)", x -> x.room(Edges.GREATEST, 3), -1);
        Edges.refused(c, Edges::lived, "room(0, -1)", x -> x.room(0, -1), -2);
        Edges.refused(c, Edges::lived, "room(5, 4)", x -> x.room(5, 4), -2);
        Edges.refused(c, Edges::lived, "room(0, least)", x -> x.room(0, Edges.LEAST), -2);
        Edges.refused(c, Edges::lived, "room(0, greatest)", x -> x.room(0, Edges.GREATEST), -2);
        Edges.refused(c, Edges::lived, "room(6, 4), both", x -> x.room(6, 4), -1);
        Edges.refused(c, Edges::lived, "room(-1, -1), both", x -> x.room(-1, -1), -1);
    }

    private static void promise5LeastAndGreatest() {
        c.sentence(5, "Of a LOCK: 0 the lesser PLACE, 1 the other, 2 SIZE, 3 CYCLE");
        NeverBothDoors x = Checks.burrowOf("l1001;" + "l2345;".repeat(5) + "l6599;");
        int[] first = {0, 1, 0, 1, 0};
        int[] last = {5, 6, 9, 9, 0};
        for (int what = 0; what < 5; what++) {
            c.due("lock(0, " + what + ")", x.lock(0, what), first[what]);
            c.due("lock(6, " + what + ")", x.lock(6, what), last[what]);
        }
        c.dueRefusals("none refused", x, 0, 0, 0, 0, 0, 0);
    }

    private static void promise5Doors() {
        c.sentence(5, "4 DOORS (0 both shut, 1 the first open, 2 the second)");
        NeverBothDoors x = Checks.burrowOf(Edges.SEVEN_LOCKS);
        for (int door : new int[] {0, 1, 0, 2, 0}) {
            x.open(0, door);
            x.open(6, door);
            for (int lock = 0; lock < 7; lock++) {
                c.due("lock(" + lock + ", 4) with door " + door, x.lock(lock, 4), lock == 0 || lock == 6 ? door : 0);
            }
        }
    }

    private static void promise5Refusals() {
        c.sentence(5, "4 DOORS (0 both shut, 1 the first open, 2 the second). -1; -2.");
        Edges.refused(c, NeverBothDoors::new, "lock(0, 0), none yet", x -> x.lock(0, 0), -1);
        Edges.refused(c, Edges::lived, "lock(6, 0), six there", x -> x.lock(6, 0), -1);
        Edges.refused(c, Edges::full, "lock(7, 0), all there", x -> x.lock(7, 0), -1);
        Edges.refused(c, Edges::lived, "lock(-1, 0)", x -> x.lock(-1, 0), -1);
        Edges.refused(c, Edges::lived, "lock(least, 4)", x -> x.lock(Edges.LEAST, 4), -1);
        Edges.refused(c, Edges::lived, "lock(greatest, 4)", x -> x.lock(Edges.GREATEST, 4), -1);
        Edges.refused(c, Edges::lived, "lock(0, -1)", x -> x.lock(0, -1), -2);
        Edges.refused(c, Edges::lived, "lock(5, 5)", x -> x.lock(5, 5), -2);
        Edges.refused(c, Edges::full, "lock(6, greatest)", x -> x.lock(6, Edges.GREATEST), -2);
        Edges.refused(c, Edges::lived, "lock(0, least)", x -> x.lock(0, Edges.LEAST), -2);
        Edges.refused(c, Edges::lived, "lock(6, 5), both", x -> x.lock(6, 5), -1);
        Edges.refused(c, Edges::lived, "lock(-1, -1), both", x -> x.lock(-1, -1), -1);
    }

    private static void promise6LeastAndGreatest() {
        c.sentence(6, "Of one: 0 KIND (0 p, 1 c, 2 w, 3 h, 4 t, 5 s), 1 PLACE, 2 FIT, 3 SUIT");
        NeverBothDoors x = Checks.burrowOf("pp01,0;" + "pc12,1;".repeat(3) + "ps65,99;");
        int[] first = {0, 0, 1, 0, 2};
        int[] last = {5, 6, 5, 99, 0};
        for (int what = 0; what < 5; what++) {
            c.due("person(0, " + what + ")", x.person(0, what), first[what]);
            c.due("person(4, " + what + ")", x.person(4, what), last[what]);
        }
        c.dueRefusals("none refused", x, 0, 0, 0, 0, 0, 0);
    }

    private static void promise6Kinds() {
        c.sentence(6, "KINDS, how much one breathes in a MINUTE in a ROOM");
        String kinds = "pcwhts";
        int[] alone = {2, 1, 4, 3, 0, 0};
        int[] withOne = {2, 1, 4, 3, 0, 1};
        for (int kind = 0; kind < 6; kind++) {
            for (int room = 0; room < 6; room++) {
                String text = "p" + kinds.charAt(kind) + room + "1,0;";
                NeverBothDoors x = Checks.burrowOf(text);
                c.due("person(0, 0) of " + text, x.person(0, 0), kind);
                c.due("person(0, 4) of " + text, x.person(0, 4), alone[kind]);
                Checks.told(x, "pt" + room + "1,0;");
                c.due("person(0, 4) of " + text + " with a cat", x.person(0, 4), withOne[kind]);
                c.due("room(" + room + ", 3) of " + text + " with a cat", x.room(room, 3), withOne[kind]);
            }
        }
    }

    private static void promise6Alone() {
        c.sentence(6, "1 less than a PERSON; 0, if alone in the ROOM");
        NeverBothDoors x = Checks.burrowOf("ps01,9;ps11,9;ps61,9;l0111;l1611;");
        c.due("alone", x.person(0, 4), 0);
        c.due("alone in another room", x.person(1, 4), 0);
        x.passes(0, 0);
        c.due("another has come", x.person(1, 4), 1);
        c.due("the other one, too", x.person(0, 4), 1);
        c.due("two sleepers breathe", x.room(1, 3), 2);
        x.passes(0, 1);
        c.due("the other has gone", x.person(1, 4), 0);
        c.due("outside with another", x.person(0, 4), 0);
    }

    private static void promise6Outside() {
        c.sentence(6, "4 how much he breathes where he is (OUTSIDE 0)");
        for (char kind : "pcwhts".toCharArray()) {
            NeverBothDoors x = Checks.burrowOf("p" + kind + "61,0;pp61,0;");
            c.due("person(0, 4) of " + kind, x.person(0, 4), 0);
            c.due("person(1, 4) beside " + kind, x.person(1, 4), 0);
        }
    }

    private static void promise6Refusals() {
        c.sentence(6, "4 how much he breathes where he is (OUTSIDE 0). -1; -2.");
        Edges.refused(c, NeverBothDoors::new, "person(0, 0), nobody yet", x -> x.person(0, 0), -1);
        Edges.refused(c, Edges::lived, "person(3, 0), three there", x -> x.person(3, 0), -1);
        Edges.refused(c, Edges::full, "person(5, 0), all there", x -> x.person(5, 0), -1);
        Edges.refused(c, Edges::lived, "person(-1, 0)", x -> x.person(-1, 0), -1);
        Edges.refused(c, Edges::lived, "person(least, 4)", x -> x.person(Edges.LEAST, 4), -1);
        Edges.refused(c, Edges::lived, "person(greatest, 4)", x -> x.person(Edges.GREATEST, 4), -1);
        Edges.refused(c, Edges::lived, "person(0, -1)", x -> x.person(0, -1), -2);
        Edges.refused(c, Edges::lived, "person(2, 5)", x -> x.person(2, 5), -2);
        Edges.refused(c, Edges::full, "person(4, greatest)", x -> x.person(4, Edges.GREATEST), -2);
        Edges.refused(c, Edges::lived, "person(0, least)", x -> x.person(0, Edges.LEAST), -2);
        Edges.refused(c, Edges::lived, "person(3, 5), both", x -> x.person(3, 5), -1);
        Edges.refused(c, Edges::lived, "person(-1, -1), both", x -> x.person(-1, -1), -1);
    }

    private static void nothingChanges() {
        NeverBothDoors x = Edges.lived();
        for (int what = 0; what < 5; what++) {
            x.lock(4, what);
            x.person(0, what);
            x.room(0, Math.min(what, 3));
        }
        c.sentence(4, "Of a ROOM");
        Edges.dueSame(c, "room(), lock() and person() only tell", x, Edges.lived());
    }
}
