/** Promises 14 to 18: way, soonest, farthest, more, errands. */
public final class WaysTest {
    private static final Checks c = new Checks();

    public static void main(String[] args) {
        ways();
        soonest();
        farthest();
        more();
        moreWhereNothingHelps();
        errands();
        refusals();
        c.end();
    }

    private static void ways() {
        NeverBothDoors x = Checks.burrowOf("l0115;l1213;l0219;l2612;l0118;");
        c.due("itself", x.way(0, 0), 0);
        c.due("outside itself", x.way(6, 6), 0);
        c.due("one lock, the quicker", x.way(0, 1), 5);
        c.due("round about", x.way(0, 2), 8);
        c.due("back", x.way(2, 0), 8);
        c.due("outside", x.way(6, 0), 10);
        c.due("none", x.way(0, 3), -9);
        c.due("none", x.way(5, 6), -9);
        x.open(0, 1);
        c.due("doors aside", x.way(0, 1), 5);
        NeverBothDoors over = Checks.burrowOf("l0611;l1612;");
        c.due("by the outside", over.way(0, 1), 3);
    }

    private static void soonest() {
        NeverBothDoors x = Checks.burrowOf("l3617;l4614;l3411;");
        for (int room = 0; room < 6; room++) {
            c.due("from a room", x.soonest(room), 0);
        }
        c.due("from outside", x.soonest(6), 4);
        c.due("none", new NeverBothDoors().soonest(6), -9);
    }

    private static void farthest() {
        NeverBothDoors x = new NeverBothDoors();
        c.due("none", x.farthest(0), -9);
        c.due("none", x.farthest(1), -9);
        Checks.told(x, "l5613;");
        c.due("the only", x.farthest(0), 5);
        c.due("its way", x.farthest(1), 3);
        Checks.told(x, "l4512;l3512;");
        c.due("of several the least", x.farthest(0), 3);
        c.due("its way", x.farthest(1), 5);
        Checks.told(x, "l0111;");
        c.due("those that have one", x.farthest(0), 3);
        Checks.told(x, "l4611;");
        c.due("the longest", x.farthest(0), 3);
        Checks.told(x, "l3611;");
        c.due("of those left", x.farthest(0), 5);
        c.due("its way", x.farthest(1), 3);
        NeverBothDoors least = Checks.burrowOf("l0612;l1611;");
        c.due("the least room", least.farthest(0), 0);
        c.due("its way", least.farthest(1), 2);
    }

    private static void more() {
        NeverBothDoors x = Checks.burrowOf("l0119;l1219;l2319;l3419;l4519;");
        // A row of six with no way out: a lock at 2 or 3 makes the longest 28, and 26 is less than 36.
        c.due("where", x.more(0), 26);
        c.due("longest", x.more(1), 28);
        Checks.told(x, "l0611;");
        // 1, 10, 19, 28, 37, 46: by 0-4 as by 4-6 the longest is 19 (to 2), and 4 is the lesser.
        c.due("where", x.more(0), 4);
        c.due("longest", x.more(1), 19);
        c.due("in mind", x.count(0), 6);
        c.due("in mind", x.way(6, 3), 28);
        Checks.told(x, "l0519;");
        // A ring: 1, 10, 19, 28, 19, 10; a lock more is in mind alone, though there are seven.
        c.due("with seven", x.more(0), 36);
        c.due("with seven, longest", x.more(1), 10);
        NeverBothDoors inside = Checks.burrowOf("l0111;l1211;l2319;l3611;l3411;l4511;");
        // 2, 1 and 0 hang behind the 9 minutes from 3: from outside to 0 they are 3, 2 and 1, and 5 is 3.
        c.due("the far end", inside.more(0), 6);
        c.due("the far end, longest", inside.more(1), 3);
        NeverBothDoors within = Checks.burrowOf("l0611;l0111;l0211;l0315;l3411;l3511;");
        // 3, 4 and 5 hang behind 5 minutes more: by 0-3 they are 2 and 3, by 3-6 1 and 2.
        c.due("outside", within.more(0), 36);
        c.due("outside, longest", within.more(1), 2);
        NeverBothDoors room = Checks.burrowOf("l0611;l0111;l0211;l0315;l0415;l3419;l4511;");
        // 5 is 7: by 0-4 it is 3, but 3 is still 6, as by any other.
        c.due("two rooms", room.more(0), 4);
        c.due("two rooms, longest", room.more(1), 6);
        NeverBothDoors none = Checks.burrowOf("l0611;l0111;l2611;l3611;l4611;");
        // 5 has no way: by 0-5 it is 2, just as far as 1.
        c.due("from a room", none.more(0), 5);
        c.due("from a room, longest", none.more(1), 2);
    }

    private static void moreWhereNothingHelps() {
        NeverBothDoors x = new NeverBothDoors();
        c.due("none can", x.more(0), -9);
        c.due("none can", x.more(1), -9);
        Checks.told(x, "l0111;l2611;l3611;");
        c.due("still two apart", x.more(0), -9);
        NeverBothDoors all = Checks.burrowOf("l0611;l1611;l2611;l3611;l4611;l5611;");
        c.due("the least of all", all.more(0), 1);
        c.due("longest", all.more(1), 1);
    }

    private static void errands() {
        NeverBothDoors x = Checks.burrowOf("l0112;l0213;l0314;l3461;");
        c.due("nothing", x.errands(5, 0), 0);
        c.due("where one is", x.errands(5, 32), 0);
        c.due("one", x.errands(0, 2), 2);
        c.due("the longest last", x.errands(0, 14), 2 * 2 + 2 * 3 + 4);
        c.due("with one's own", x.errands(0, 15), 14);
        c.due("one behind", x.errands(1, 28), 2 + 2 * 3 + 4 + 1);
        c.due("on the way", x.errands(2, 25), 3 + 4 + 1);
        c.due("none", x.errands(0, 32), -9);
        c.due("none to one", x.errands(0, 127), -9);
        c.due("none from", x.errands(6, 1), -9);
        NeverBothDoors ring = Checks.burrowOf("l0111;l1211;l2311;l3411;l4511;l5611;l0619;");
        c.due("all in a row", ring.errands(0, 127), 6);
        c.due("from the midst", ring.errands(2, 127), 2 + 6);
        c.due("outside too", ring.errands(6, 1), 6);
    }

    private static void refusals() {
        NeverBothDoors x = new NeverBothDoors();
        c.due("way(7, 0)", x.way(7, 0), -1);
        c.due("way(0, 7)", x.way(0, 7), -1);
        c.due("way(-1, 0)", x.way(-1, 0), -1);
        c.due("way(0, -1)", x.way(0, -1), -1);
        c.due("way(7, 7)", x.way(7, 7), -1);
        c.due("soonest(7)", x.soonest(7), -1);
        c.due("soonest(-1)", x.soonest(-1), -1);
        c.due("farthest(2)", x.farthest(2), -2);
        c.due("farthest(-1)", x.farthest(-1), -2);
        c.due("more(2)", x.more(2), -2);
        c.due("more(-1)", x.more(-1), -2);
        c.due("errands(7, 0)", x.errands(7, 0), -1);
        c.due("errands(-1, 0)", x.errands(-1, 0), -1);
        c.due("errands(0, 128)", x.errands(0, 128), -1);
        c.due("errands(0, -1)", x.errands(0, -1), -1);
        c.due("errands(0, least)", x.errands(0, Integer.MIN_VALUE), -1);
        c.dueRefusals("ways", x, 12, 4, 0, 0, 0, 0);
    }
}
