/** Boundary cases of promise 29: count. */
public final class CountEdgesTest {
    private static final Checks c = new Checks();

    public static void main(String[] args) {
        promise29NothingYet();
        promise29AllPlacesFull();
        promise29Most();
        promise29Refusals();
        promise29AnotherWhat();
        promise29ManyRefusals();
        c.end();
    }

    private static void promise29NothingYet() {
        c.sentence(29, "0 LOCKS, 1 PEOPLE, 2 MINUTE, 3 all AIR, 4 all LEAKS, 5 all GASPS so far, 6 in the ROW, 7 letters");
        NeverBothDoors x = new NeverBothDoors();
        int[] due = {0, 0, 0, 600, 0, 0, 0, 0};
        for (int what = 0; what < 8; what++) {
            c.due("count(" + what + ")", x.count(what), due[what]);
        }
        NeverBothDoors none = Checks.burrowOf("r0,0;r1,0;r2,0;r3,0;r4,0;r5,0;");
        c.due("no air at all", none.count(3), 0);
    }

    private static void promise29AllPlacesFull() {
        c.sentence(29, "0 LOCKS, 1 PEOPLE, 2 MINUTE, 3 all AIR, 4 all LEAKS, 5 all GASPS so far, 6 in the ROW, 7 letters");
        NeverBothDoors x = Edges.full();
        c.due("count(0)", x.count(0), 7);
        c.due("count(1)", x.count(1), 5);
        c.due("count(2)", x.count(2), 999);
        c.due("count(6)", x.count(6), 12);
        c.due("count(7)", x.count(7), 96);
    }

    private static void promise29Most() {
        c.sentence(29, "3 all AIR, 4 all LEAKS, 5 all GASPS so far");
        NeverBothDoors air = Checks.burrowOf("r0,999;r1,999;r2,999;r3,999;r4,999;r5,999;k09;k19;k29;k39;k49;k59;");
        c.due("all air", air.count(3), 5994);
        c.due("all leaks", air.count(4), 54);
        NeverBothDoors gasps = Checks.burrowOf("r0,0;pp01,0;pp01,0;pt61,0;pt61,0;pt61,0;");
        Edges.atMinute(gasps, 999);
        c.due("all gasps", gasps.count(5), 4995);
        c.due("none in mind", gasps.gasps(99), 495);
        c.due("all gasps still", gasps.count(5), 4995);
    }

    private static void promise29Refusals() {
        c.sentence(29, "11 .. 16 REFUSALS -1 .. -6");
        NeverBothDoors x = new NeverBothDoors();
        c.dueRefusals("none yet", x, 0, 0, 0, 0, 0, 0);
        x.room(6, 0);
        c.dueRefusals("a -1", x, 1, 0, 0, 0, 0, 0);
        x.room(0, 4);
        c.dueRefusals("and a -2", x, 1, 1, 0, 0, 0, 0);
        x.on();
        c.dueRefusals("and a -3", x, 1, 1, 1, 0, 0, 0);
        x.row(-1);
        c.dueRefusals("and a -4", x, 1, 1, 1, 1, 0, 0);
        x.row(1000);
        c.dueRefusals("and a -6", x, 1, 1, 1, 1, 0, 1);
        c.due("no -5 ever", x.count(15), 0);
    }

    private static void promise29AnotherWhat() {
        c.sentence(29, "-9 for another what.");
        for (int what : new int[] {Edges.LEAST, -16, -11, -9, -1, 8, 9, 10, 17, 18, 99, Edges.GREATEST}) {
            NeverBothDoors x = Edges.lived();
            c.due("count(" + what + ")", x.count(what), -9);
            c.dueRefusals("count(" + what + ") is not refused", x, 0, 0, 0, 0, 0, 0);
            Edges.dueSame(c, "count(" + what + ")", x, Edges.lived());
        }
    }

    private static void promise29ManyRefusals() {
        c.sentence(29, "nothing changes but how many there were");
        NeverBothDoors x = new NeverBothDoors();
        for (int i = 0; i < 300; i++) {
            x.letter(-1);
        }
        c.dueRefusals("300 of -4", x, 0, 0, 0, 300, 0, 0);
        c.due("no letters", x.count(7), 0);
        // Answers of -9 and faults of a burrow are no refusals.
        x.burrow();
        x.out();
        x.farthest(0);
        x.more(0);
        x.way(0, 1);
        x.soonest(6);
        x.errands(0, 2);
        x.judge();
        c.dueRefusals("no more of any", x, 0, 0, 0, 300, 0, 0);
    }
}
