/** Promises 7 and 8: open, passes. */
public final class DoorsTest {
    private static final Checks c = new Checks();

    public static void main(String[] args) {
        doors();
        doorRefusals();
        passing();
        passingOutside();
        minutesOfACycle();
        refusals();
        mostMinute();
        c.end();
    }

    private static void doors() {
        NeverBothDoors x = Checks.burrowOf("l0111;l0211;");
        c.due("shut already", x.open(0, 0), 0);
        c.due("first opens", x.open(0, 1), 0);
        c.due("first again", x.open(0, 1), 1);
        c.due("the other", x.open(0, 2), -3);
        c.due("still the first", x.lock(0, 4), 1);
        c.due("another lock's second", x.open(1, 2), 0);
        c.due("another lock's first", x.open(1, 1), -3);
        c.due("shut", x.open(0, 0), 1);
        c.due("the second now", x.open(0, 2), 0);
        c.due("the second again", x.open(0, 2), 2);
        c.due("shut the second", x.open(0, 0), 2);
        c.due("no minute", x.count(2), 0);
        c.dueRefusals("doors", x, 0, 0, 2, 0, 0, 0);
    }

    private static void doorRefusals() {
        NeverBothDoors x = Checks.burrowOf("l0111;");
        x.open(0, 1);
        c.due("no lock", x.open(1, 9), -1);
        c.due("no lock below", x.open(-1, 0), -1);
        c.due("no door 3", x.open(0, 3), -2);
        c.due("no door -1", x.open(0, -1), -2);
        c.dueRefusals("door refusals", x, 2, 2, 0, 0, 0, 0);
    }

    private static void passing() {
        NeverBothDoors x = Checks.burrowOf("l1294;pp11,0;pp21,0;");
        c.due("to the other", x.passes(0, 0), 2);
        c.due("he is there", x.person(0, 1), 2);
        c.due("minute", x.count(2), 4);
        // He breathes where he comes to: 4 minutes of two people.
        c.due("air he came to", x.room(2, 0), 84);
        c.due("air he left", x.room(1, 0), 100);
        c.due("back", x.passes(0, 0), 1);
        c.due("minute", x.count(2), 8);
        c.due("air he came to", x.room(1, 0), 92);
        c.due("air he left", x.room(2, 0), 76);
    }

    private static void passingOutside() {
        NeverBothDoors x = Checks.burrowOf("l0692;r0,20;pp01,3;");
        c.due("out", x.passes(0, 0), 6);
        c.due("size of air", x.room(0, 0), 11);
        c.due("suit", x.person(0, 3), 1);
        c.due("in", x.passes(0, 0), 0);
        // 11 less 9, and 2 minutes of 2 more: 0 and then gasping.
        c.due("air", x.room(0, 0), 0);
        c.due("gasps", x.count(5), 1);
        NeverBothDoors least = Checks.burrowOf("l0691;r0,5;pt01,9;");
        least.passes(0, 0);
        c.due("0 at least", least.room(0, 0), 0);
        c.due("no gasp by the size", least.count(5), 0);
        NeverBothDoors within = Checks.burrowOf("l0191;pt01,9;");
        within.passes(0, 0);
        c.due("no outside, no size", within.count(3), 600);
    }

    private static void minutesOfACycle() {
        NeverBothDoors x = Checks.burrowOf("l0609;pp01,2;pw11,0;r1,10;k23;");
        c.due("out", x.passes(0, 0), 6);
        c.due("minute", x.count(2), 9);
        c.due("leak", x.room(2, 0), 73);
        c.due("suit", x.person(0, 3), 0);
        // Outside: 7 minutes without; the worker: 2 minutes with air, 7 without.
        c.due("gasps", x.count(5), 14);
    }

    private static void refusals() {
        NeverBothDoors x = Checks.burrowOf("l0111;l2311;pp01,0;");
        c.due("nobody", x.passes(1, 0), -1);
        c.due("nobody below", x.passes(-1, 0), -1);
        c.due("no lock", x.passes(0, 2), -1);
        c.due("no lock below", x.passes(0, -1), -1);
        c.due("neither", x.passes(5, 7), -1);
        c.due("not at it", x.passes(0, 1), -3);
        x.open(0, 1);
        c.due("first open", x.passes(0, 0), -3);
        x.open(0, 0);
        x.open(0, 2);
        c.due("second open", x.passes(0, 0), -3);
        c.due("nothing gone by", x.count(2), 0);
        x.open(0, 0);
        c.due("shut", x.passes(0, 0), 1);
        c.dueRefusals("refusals", x, 5, 0, 3, 0, 0, 0);
    }

    private static void mostMinute() {
        NeverBothDoors x = Checks.burrowOf("l0115;l1214;pt01,0;");
        for (int i = 0; i < 10; i++) {
            x.minutes(99);
        }
        c.due("994 in all", x.minutes(4), 0);
        x.image();
        c.due("994", x.passes(0, 1), -3);
        c.due("999 can be", x.passes(0, 0), 1);
        c.due("999", x.count(2), 999);
        c.due("1003 can not", x.passes(0, 1), -6);
        c.due("he stays", x.person(0, 1), 1);
        x.on();
        x.minutes(1);
        c.due("1000 can not", x.passes(0, 0), -6);
        x.open(0, 1);
        c.due("the door ahead of the minute", x.passes(0, 0), -3);
        c.due("one more minute ahead", x.count(2), 995);
        c.dueRefusals("most minute", x, 0, 0, 2, 0, 0, 2);
    }
}
