import java.util.function.Supplier;

/** Boundary cases of promises 7 and 8: open, passes. */
public final class DoorsEdgesTest {
    private static final Checks c = new Checks();

    public static void main(String[] args) {
        promise7WhichWasOpen();
        promise7NeverBoth();
        promise7OtherLocks();
        promise7Refusals();
        promise8HisPlaceThen();
        promise8Size();
        promise8SizeWithinAndInside();
        promise8CycleMinutes();
        promise8WhereHeComesTo();
        promise8GreatestMinute();
        promise8Refusals();
        promise8RefusalsAtOnce();
        c.end();
    }

    private static NeverBothDoors withDoor(int door) {
        NeverBothDoors x = Checks.burrowOf("l0111;");
        x.open(0, door);
        return x;
    }

    private static void promise7WhichWasOpen() {
        c.sentence(7, "A DOOR (1, 2) opens; 0: both are shut: which was open (0 none).");
        c.due("the first call of all", Checks.burrowOf("l0111;").open(0, 0), 0);
        int[][] due = {{0, 0, 0}, {1, 1, -3}, {2, -3, 2}};
        for (int was = 0; was <= 2; was++) {
            for (int door = 0; door <= 2; door++) {
                NeverBothDoors x = withDoor(was);
                c.due("open(0, " + door + ") with " + was + " open", x.open(0, door), due[was][door]);
                c.due("lock(0, 4) then", x.lock(0, 4), due[was][door] == -3 ? was : door);
                c.due("no minute goes by", x.count(2), 0);
            }
        }
    }

    private static void promise7NeverBoth() {
        c.sentence(7, "-3 the other one is open.");
        NeverBothDoors x = withDoor(1);
        c.due("the other", x.open(0, 2), -3);
        c.due("the other again", x.open(0, 2), -3);
        c.due("shut: which was open", x.open(0, 0), 1);
        c.due("now the other", x.open(0, 2), 0);
        c.due("and the first no more", x.open(0, 1), -3);
        c.dueRefusals("three", x, 0, 0, 3, 0, 0, 0);
    }

    private static void promise7OtherLocks() {
        c.sentence(7, "To OPEN a DOOR: the other one of its LOCK is shut.");
        NeverBothDoors x = Checks.burrowOf(Edges.SEVEN_LOCKS);
        for (int lock = 0; lock < 7; lock++) {
            c.due("open(" + lock + ")", x.open(lock, 1 + lock % 2), 0);
        }
        for (int lock = 0; lock < 7; lock++) {
            c.due("lock(" + lock + ", 4)", x.lock(lock, 4), 1 + lock % 2);
            c.due("the other door of " + lock, x.open(lock, 2 - lock % 2), -3);
        }
    }

    private static void promise7Refusals() {
        c.sentence(7, "which was open (0 none). -1; -2; -3 the other one is open.");
        Edges.refused(c, NeverBothDoors::new, "open(0, 0), none yet", x -> x.open(0, 0), -1);
        Edges.refused(c, Edges::lived, "open(6, 1), six there", x -> x.open(6, 1), -1);
        Edges.refused(c, Edges::full, "open(7, 1), all there", x -> x.open(7, 1), -1);
        Edges.refused(c, Edges::lived, "open(-1, 0)", x -> x.open(-1, 0), -1);
        Edges.refused(c, Edges::lived, "open(least, 1)", x -> x.open(Edges.LEAST, 1), -1);
        Edges.refused(c, Edges::lived, "open(greatest, 1)", x -> x.open(Edges.GREATEST, 1), -1);
        Edges.refused(c, Edges::lived, "open(0, -1)", x -> x.open(0, -1), -2);
        Edges.refused(c, Edges::lived, "open(0, 3)", x -> x.open(0, 3), -2);
        Edges.refused(c, Edges::lived, "open(0, least)", x -> x.open(0, Edges.LEAST), -2);
        Edges.refused(c, Edges::lived, "open(0, greatest)", x -> x.open(0, Edges.GREATEST), -2);
        Edges.refused(c, Edges::lived, "open(4, 2), the first open", x -> x.open(4, 2), -3);
        Edges.refused(c, Edges::lived, "open(3, 1), the second open", x -> x.open(3, 1), -3);
        Edges.refused(c, Edges::lived, "open(6, 3), no such lock and door", x -> x.open(6, 3), -1);
        Edges.refused(c, Edges::lived, "open(-1, -1), no such lock and door", x -> x.open(-1, -1), -1);
        Edges.refused(c, Edges::lived, "open(4, 3), no such door, one open", x -> x.open(4, 3), -2);
        Edges.refused(c, Edges::lived, "open(3, -1), no such door, one open", x -> x.open(3, -1), -2);
    }

    private static void promise8HisPlaceThen() {
        c.sentence(8, "He PASSES a LOCK: his PLACE then.");
        for (int one = 0; one < 7; one++) {
            for (int two = one + 1; two < 7; two++) {
                NeverBothDoors x = Checks.burrowOf("l" + two + one + "01;pt" + one + "1,9;");
                c.due("from " + one, x.passes(0, 0), two);
                c.due("person(0, 1)", x.person(0, 1), two);
                c.due("from " + two, x.passes(0, 0), one);
                c.due("person(0, 1)", x.person(0, 1), one);
                c.due("doors stay shut", x.lock(0, 4), 0);
            }
        }
        NeverBothDoors last = Checks.burrowOf("l0101;".repeat(6) + "l4501;" + "pt01,0;".repeat(4) + "pt41,0;");
        c.due("the last of people by the last lock", last.passes(4, 6), 5);
        c.due("the others stay", last.room(0, 2), 4);
    }

    private static void promise8Size() {
        c.sentence(8, "takes SIZE of AIR from its ROOM (0 at least)");
        for (int size = 0; size < 10; size++) {
            for (int air = 0; air < 12; air++) {
                NeverBothDoors x = Checks.burrowOf("r3," + air + ";l63" + size + "1;pt31,9;");
                x.passes(0, 0);
                c.due("out, size " + size + " of " + air, x.room(3, 0), Math.max(0, air - size));
                c.due("no gasp by the size", x.count(5), 0);
                c.due("from its room alone", x.count(3), 500 + Math.max(0, air - size));
            }
        }
    }

    private static void promise8SizeWithinAndInside() {
        c.sentence(8, "a LOCK with OUTSIDE takes SIZE of AIR from its ROOM (0 at least)");
        NeverBothDoors x = Checks.burrowOf("l0191;l0691;pt61,9;");
        c.due("in", x.passes(0, 1), 0);
        c.due("on the way in, too", x.room(0, 0), 91);
        c.due("between rooms", x.passes(0, 0), 1);
        c.due("nothing from the one", x.room(0, 0), 91);
        c.due("nothing from the other", x.room(1, 0), 100);
        NeverBothDoors gasp = Checks.burrowOf("r0,9;l0691;pt61,9;pc01,0;");
        gasp.passes(0, 0);
        c.due("the size goes ahead of the minutes", gasp.count(5), 2);
    }

    private static void promise8CycleMinutes() {
        c.sentence(8, "CYCLE MINUTES go by");
        for (int cycle = 1; cycle < 10; cycle++) {
            NeverBothDoors x = Checks.burrowOf("l010" + cycle + ";pt01,0;k21;");
            x.passes(0, 0);
            c.due("minute by cycle " + cycle, x.count(2), cycle);
            c.due("air by cycle " + cycle, x.room(2, 0), 100 - cycle);
        }
    }

    private static void promise8WhereHeComesTo() {
        c.sentence(8, "he being at the PLACE that he comes to");
        NeverBothDoors x = Checks.burrowOf("l0603;pw01,1;");
        x.passes(0, 0);
        c.due("he breathes nothing where he was", x.room(0, 0), 100);
        c.due("his suit gets less", x.person(0, 3), 0);
        c.due("suit 0 ahead of the second and the third minute", x.count(5), 2);
        x.passes(0, 0);
        c.due("he breathes where he is", x.room(0, 0), 88);
        c.due("no gasps inside", x.count(5), 2);
    }

    private static NeverBothDoors at(int minute) {
        NeverBothDoors x = Checks.burrowOf("l0109;l1201;pt01,0;");
        Edges.atMinute(x, minute);
        return x;
    }

    private static Supplier<NeverBothDoors> reaching(int minute) {
        return () -> at(minute);
    }

    private static void promise8GreatestMinute() {
        c.sentence(8, "-6 MINUTE would be above 999.");
        NeverBothDoors x = at(990);
        c.due("999 just can be", x.passes(0, 0), 1);
        c.due("minute", x.count(2), 999);
        c.due("a minute more", x.passes(0, 1), -6);
        NeverBothDoors y = at(991);
        c.due("1000 can not", y.passes(0, 0), -6);
        Edges.refused(c, reaching(991), "by 9 from 991", z -> z.passes(0, 0), -6);
        Edges.refused(c, reaching(999), "by 9 from 999", z -> z.passes(0, 0), -6);
    }

    private static void promise8Refusals() {
        c.sentence(8, "his PLACE then. -1 either; -3 he is not at it, a DOOR is open; -6");
        Edges.refused(c, NeverBothDoors::new, "passes(0, 0), nothing yet", x -> x.passes(0, 0), -1);
        Edges.refused(c, () -> Checks.burrowOf("l0111;"), "nobody yet", x -> x.passes(0, 0), -1);
        Edges.refused(c, () -> Checks.burrowOf("pp01,0;"), "no lock yet", x -> x.passes(0, 0), -1);
        Edges.refused(c, Edges::lived, "passes(3, 0), three there", x -> x.passes(3, 0), -1);
        Edges.refused(c, Edges::lived, "passes(-1, 0)", x -> x.passes(-1, 0), -1);
        Edges.refused(c, Edges::lived, "passes(0, 6), six there", x -> x.passes(0, 6), -1);
        Edges.refused(c, Edges::lived, "passes(0, -1)", x -> x.passes(0, -1), -1);
        Edges.refused(c, Edges::lived, "passes(least, 0)", x -> x.passes(Edges.LEAST, 0), -1);
        Edges.refused(c, Edges::lived, "passes(greatest, 0)", x -> x.passes(Edges.GREATEST, 0), -1);
        Edges.refused(c, Edges::lived, "passes(0, least)", x -> x.passes(0, Edges.LEAST), -1);
        Edges.refused(c, Edges::lived, "passes(0, greatest)", x -> x.passes(0, Edges.GREATEST), -1);
        Edges.refused(c, Edges::lived, "passes(3, 6), either", x -> x.passes(3, 6), -1);
        Edges.refused(c, Edges::full, "passes(5, 0), all there", x -> x.passes(5, 0), -1);
        Edges.refused(c, Edges::full, "passes(0, 7), all there", x -> x.passes(0, 7), -1);
        Edges.refused(c, Edges::lived, "passes(0, 5), not at it", x -> x.passes(0, 5), -3);
        Edges.refused(c, Edges::lived, "passes(2, 3), the second open", x -> x.passes(2, 3), -3);
        Edges.refused(c, () -> withDoorAndOne(1), "the first open, on his side", x -> x.passes(0, 0), -3);
        Edges.refused(c, () -> withDoorAndOne(2), "the second open", x -> x.passes(0, 0), -3);
        NeverBothDoors shut = withDoorAndOne(2);
        shut.open(0, 0);
        c.due("shut again", shut.passes(0, 0), 1);
    }

    private static NeverBothDoors withDoorAndOne(int door) {
        NeverBothDoors x = withDoor(door);
        Checks.told(x, "pp01,0;");
        return x;
    }

    private static NeverBothDoors lateWithDoor() {
        NeverBothDoors x = at(999);
        x.open(0, 1);
        return x;
    }

    private static void promise8RefusalsAtOnce() {
        c.sentence(8, "-1 either; -3 he is not at it, a DOOR is open; -6 MINUTE would be above 999.");
        Edges.refused(c, Edges::lived, "nobody, and a door open", x -> x.passes(3, 4), -1);
        Edges.refused(c, reaching(999), "nobody, and too late", x -> x.passes(1, 0), -1);
        Edges.refused(c, reaching(999), "no lock, and too late", x -> x.passes(0, 2), -1);
        Edges.refused(c, reaching(999), "not at it, and too late", x -> x.passes(0, 1), -3);
        Edges.refused(c, DoorsEdgesTest::lateWithDoor, "a door open, and too late", x -> x.passes(0, 0), -3);
        Edges.refused(c, DoorsEdgesTest::lateWithDoor, "nobody, a door open, and too late", x -> x.passes(1, 0), -1);
        Edges.refused(c, Edges::lived, "not at it, and a door open", x -> x.passes(1, 4), -3);
    }
}
