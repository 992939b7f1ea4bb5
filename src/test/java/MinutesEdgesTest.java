import java.util.function.Supplier;

/** Boundary cases of promises 9 to 13: minutes, leak, air, gasps, out. */
public final class MinutesEdgesTest {
    private static final Checks c = new Checks();

    public static void main(String[] args) {
        promise9LeastAndGreatest();
        promise9GreatestMinute();
        promise9Refusals();
        promise9Air();
        promise9GaspsInRooms();
        promise9Suits();
        promise9Most();
        promise10LeastAndGreatest();
        promise10Refusals();
        promise11LeastAndGreatest();
        promise11Refusals();
        promise12LeastAndGreatest();
        promise12Refusals();
        promise13FirstAndLast();
        promise13None();
        inMindBeyondTheGreatestMinute();
        c.end();
    }

    private static NeverBothDoors at(int minute) {
        NeverBothDoors x = Checks.burrowOf("k01;pt61,0;");
        Edges.atMinute(x, minute);
        return x;
    }

    private static Supplier<NeverBothDoors> reaching(int minute) {
        return () -> at(minute);
    }

    private static void promise9LeastAndGreatest() {
        c.sentence(9, "n MINUTES (1 .. 99) go by: GASPS of these.");
        NeverBothDoors x = at(0);
        c.due("minutes(1)", x.minutes(1), 1);
        c.due("count(2)", x.count(2), 1);
        c.due("minutes(99)", x.minutes(99), 99);
        c.due("count(2)", x.count(2), 100);
        c.due("room(0, 0)", x.room(0, 0), 0);
        c.due("all gasps", x.count(5), 100);
    }

    private static void promise9GreatestMinute() {
        c.sentence(9, "-6 (99; above 999).");
        NeverBothDoors x = at(900);
        c.due("999 just can be", x.minutes(99), 99);
        c.due("count(2)", x.count(2), 999);
        c.due("one more", x.minutes(1), -6);
        c.due("count(2)", x.count(2), 999);
        NeverBothDoors y = at(998);
        c.due("two more", y.minutes(2), -6);
        c.due("one more", y.minutes(1), 1);
        c.due("count(2)", y.count(2), 999);
    }

    private static void promise9Refusals() {
        c.sentence(9, "GASPS of these. -4; -6 (99; above 999).");
        Edges.refused(c, Edges::lived, "minutes(0)", x -> x.minutes(0), -4);
        Edges.refused(c, Edges::lived, "minutes(-1)", x -> x.minutes(-1), -4);
        Edges.refused(c, Edges::lived, "minutes(least)", x -> x.minutes(Edges.LEAST), -4);
        Edges.refused(c, Edges::lived, "minutes(100)", x -> x.minutes(100), -6);
        // Minute and n together would be below 0 as an int.
        Edges.refused(c, Edges::lived, "minutes(greatest)", x -> x.minutes(Edges.GREATEST), -6);
        Edges.refused(c, reaching(901), "minutes(99) at 901", x -> x.minutes(99), -6);
        Edges.refused(c, reaching(999), "minutes(1) at 999", x -> x.minutes(1), -6);
        Edges.refused(c, reaching(999), "minutes(100) at 999", x -> x.minutes(100), -6);
        Edges.refused(c, reaching(999), "minutes(0) at 999", x -> x.minutes(0), -4);
        Edges.refused(c, reaching(999), "minutes(-1) at 999", x -> x.minutes(-1), -4);
    }

    private static void promise9Air() {
        c.sentence(9, "of each ROOM AIR gets less by LEAK and by what all there breathe, 0 at least");
        for (int air = 0; air < 16; air++) {
            NeverBothDoors x = Checks.burrowOf("r4," + air + ";k43;pp41,0;pc41,0;pt41,0;");
            x.minutes(1);
            c.due("6 less than " + air, x.room(4, 0), Math.max(0, air - 6));
            x.minutes(1);
            c.due("12 less than " + air, x.room(4, 0), Math.max(0, air - 12));
            c.due("the other rooms", x.count(3), 500 + Math.max(0, air - 12));
        }
    }

    private static void promise9GaspsInRooms() {
        c.sentence(9, "GASPS: one for each of PEOPLE in a ROOM whose AIR would have been below 0");
        for (int air = 0; air < 9; air++) {
            NeverBothDoors x = Checks.burrowOf("r4," + air + ";k42;pp41,0;pt41,0;pp51,0;");
            c.due("4 of " + air, x.minutes(1), air < 4 ? 2 : 0);
            c.due("8 of " + air, x.minutes(1), air < 8 ? 2 : 0);
        }
        NeverBothDoors nothing = Checks.burrowOf("r0,0;pt01,0;r1,0;k19;ps21,0;r2,0;");
        c.due("0 less 0 is not below 0, and nobody is where the leak is", nothing.minutes(99), 0);
        nothing.leak(0, 1);
        c.due("even a cat, by a leak", nothing.minutes(1), 1);
    }

    private static void promise9Suits() {
        c.sentence(9, "SUITS of all who are OUTSIDE are 1 MINUTE less, 0 at least; one for each whose SUIT was 0 ahead of it GASPS, too.");
        NeverBothDoors x = Checks.burrowOf("pp61,0;pw61,1;pc61,2;pt61,99;ps01,1;");
        c.due("0 gasps, 1 not yet", x.minutes(1), 1);
        int[] then = {0, 0, 1, 98, 1};
        for (int person = 0; person < 5; person++) {
            c.due("person(" + person + ", 3)", x.person(person, 3), then[person]);
        }
        c.due("the second minute", x.minutes(1), 2);
        c.due("the third", x.minutes(1), 3);
        c.due("99 minutes of a suit: three others", x.minutes(96), 3 * 96);
        c.due("it has 0", x.person(3, 3), 0);
        c.due("then four", x.minutes(1), 4);
        c.due("0 at least", x.person(3, 3), 0);
        c.due("inside as it was", x.person(4, 3), 1);
    }

    private static void promise9Most() {
        c.sentence(9, "GASPS of these");
        NeverBothDoors x = Checks.burrowOf("r0,0;" + "pp01,0;".repeat(3) + "pt61,0;".repeat(2));
        c.due("all five in each of 99", x.minutes(99), 495);
        c.due("so far", x.count(5), 495);
        c.due("nobody yet", new NeverBothDoors().minutes(99), 0);
    }

    private static void promise10LeastAndGreatest() {
        c.sentence(10, "LEAK: what it was.");
        NeverBothDoors x = new NeverBothDoors();
        for (int room = 0; room < 6; room++) {
            c.due("leak(" + room + ", 9), 0 at first", x.leak(room, 9), 0);
            c.due("leak(" + room + ", 9) again", x.leak(room, 9), 9);
            c.due("count(4)", x.count(4), 9);
            c.due("leak(" + room + ", 0)", x.leak(room, 0), 9);
            c.due("room(" + room + ", 1)", x.room(room, 1), 0);
        }
        c.due("air as it was", x.count(3), 600);
    }

    private static void promise10Refusals() {
        c.sentence(10, "what it was. -1; -4; -6 9.");
        Edges.refused(c, Edges::lived, "leak(-1, 0)", x -> x.leak(-1, 0), -1);
        Edges.refused(c, Edges::lived, "leak(6, 0)", x -> x.leak(6, 0), -1);
        Edges.refused(c, Edges::lived, "leak(least, 0)", x -> x.leak(Edges.LEAST, 0), -1);
        Edges.refused(c, Edges::lived, "leak(greatest, 0)", x -> x.leak(Edges.GREATEST, 0), -1);
        Edges.refused(c, Edges::lived, "leak(0, -1)", x -> x.leak(0, -1), -4);
        Edges.refused(c, Edges::lived, "leak(5, least)", x -> x.leak(5, Edges.LEAST), -4);
        Edges.refused(c, Edges::lived, "leak(0, 10)", x -> x.leak(0, 10), -6);
        Edges.refused(c, Edges::lived, "leak(5, greatest)", x -> x.leak(5, Edges.GREATEST), -6);
        Edges.refused(c, Edges::lived, "leak(6, -1), both", x -> x.leak(6, -1), -1);
        Edges.refused(c, Edges::lived, "leak(6, 10), both", x -> x.leak(6, 10), -1);
        Edges.refused(c, Edges::lived, "leak(-1, 10), both", x -> x.leak(-1, 10), -1);
    }

    private static void promise11LeastAndGreatest() {
        c.sentence(11, "AIR of a ROOM behind n MINUTES (0 .. 99)");
        NeverBothDoors x = Checks.burrowOf("r0,0;r1,99;k11;r2,98;k21;r5,999;k59;pp51,0;");
        for (int n = 0; n <= 99; n++) {
            c.due("air(0, " + n + ")", x.air(0, n), 0);
            c.due("air(1, " + n + ")", x.air(1, n), 99 - n);
            c.due("air(2, " + n + ")", x.air(2, n), Math.max(0, 98 - n));
            c.due("air(5, " + n + ")", x.air(5, n), Math.max(0, 999 - 11 * n));
        }
        c.due("in mind", x.room(1, 0), 99);
        c.due("no minute", x.count(2), 0);
        NeverBothDoors lived = Edges.lived();
        lived.air(0, 99);
        Edges.dueSame(c, "air(0, 99) is in mind", lived, Edges.lived());
    }

    private static void promise11Refusals() {
        c.sentence(11, "AIR behind n MINUTES. -1; -4; -6 99.");
        Edges.refused(c, Edges::lived, "air(-1, 0)", x -> x.air(-1, 0), -1);
        Edges.refused(c, Edges::lived, "air(6, 0)", x -> x.air(6, 0), -1);
        Edges.refused(c, Edges::lived, "air(least, 0)", x -> x.air(Edges.LEAST, 0), -1);
        Edges.refused(c, Edges::lived, "air(greatest, 0)", x -> x.air(Edges.GREATEST, 0), -1);
        Edges.refused(c, Edges::lived, "air(0, -1)", x -> x.air(0, -1), -4);
        Edges.refused(c, Edges::lived, "air(5, least)", x -> x.air(5, Edges.LEAST), -4);
        Edges.refused(c, Edges::lived, "air(0, 100)", x -> x.air(0, 100), -6);
        Edges.refused(c, Edges::lived, "air(5, greatest)", x -> x.air(5, Edges.GREATEST), -6);
        Edges.refused(c, Edges::lived, "air(6, -1), both", x -> x.air(6, -1), -1);
        Edges.refused(c, Edges::lived, "air(6, 100), both", x -> x.air(6, 100), -1);
        Edges.refused(c, Edges::lived, "air(-1, 100), both", x -> x.air(-1, 100), -1);
    }

    private static void promise12LeastAndGreatest() {
        c.sentence(12, "behind n MINUTES (0 .. 99); GASPS of these");
        NeverBothDoors x = Checks.burrowOf("pt61,98;r0,97;pc01,0;");
        c.due("gasps(0)", x.gasps(0), 0);
        c.due("gasps(1)", x.gasps(1), 0);
        c.due("gasps(97)", x.gasps(97), 0);
        c.due("gasps(98)", x.gasps(98), 1);
        c.due("gasps(99)", x.gasps(99), 3);
        c.due("in mind", x.count(5), 0);
        c.due("in mind", x.count(2), 0);
        c.due("in mind", x.person(0, 3), 98);
        c.due("nobody yet", new NeverBothDoors().gasps(99), 0);
        c.due("all five in each of 99", Checks.burrowOf("pt61,0;".repeat(5)).gasps(99), 495);
    }

    private static void promise12Refusals() {
        c.sentence(12, "GASPS of n MINUTES. -4; -6 99.");
        Edges.refused(c, Edges::lived, "gasps(-1)", x -> x.gasps(-1), -4);
        Edges.refused(c, Edges::lived, "gasps(least)", x -> x.gasps(Edges.LEAST), -4);
        Edges.refused(c, Edges::lived, "gasps(100)", x -> x.gasps(100), -6);
        Edges.refused(c, Edges::lived, "gasps(greatest)", x -> x.gasps(Edges.GREATEST), -6);
        NeverBothDoors x = Edges.lived();
        x.gasps(0);
        x.gasps(99);
        Edges.dueSame(c, "gasps(99) is in mind", x, Edges.lived());
    }

    private static void promise13FirstAndLast() {
        c.sentence(13, "the first MINUTE from now on (1 .. 99) in which one GASPS");
        for (int suit = 0; suit < 99; suit++) {
            c.due("out() with a suit of " + suit, Checks.burrowOf("pt61," + suit + ";pt62,99;").out(), suit + 1);
            c.due("out() with air " + suit, Checks.burrowOf("r0," + suit + ";pc01,0;").out(), suit + 1);
        }
        NeverBothDoors x = Checks.burrowOf("pt61,99;");
        c.due("the 100th is too late", x.out(), -9);
        x.minutes(1);
        c.due("the 99th from now on", x.out(), 99);
        x.minutes(98);
        c.due("the next", x.out(), 1);
        x.minutes(9);
        c.due("one who gasps already", x.out(), 1);
    }

    private static void promise13None() {
        c.sentence(13, "OUT; -9.");
        c.due("nobody yet", new NeverBothDoors().out(), -9);
        c.due("air 99 for 99 minutes", Checks.burrowOf("r0,99;pc01,0;").out(), -9);
        c.due("nobody where the air goes", Checks.burrowOf("r0,0;k09;").out(), -9);
        NeverBothDoors x = Edges.lived();
        c.dueRefusals("out() is never refused", x, 0, 0, 0, 0, 0, 0);
        x.out();
        Edges.dueSame(c, "out() is in mind", x, Edges.lived());
    }

    private static void inMindBeyondTheGreatestMinute() {
        NeverBothDoors x = Checks.burrowOf("r0,0;pt01,0;r1,999;");
        Edges.atMinute(x, 999);
        x.leak(0, 1);
        x.leak(1, 1);
        c.sentence(11, "AIR of a ROOM behind n MINUTES (0 .. 99)");
        c.due("air(1, 99) at 999", x.air(1, 99), 900);
        c.sentence(12, "GASPS of these");
        c.due("gasps(99) at 999", x.gasps(99), 99);
        c.sentence(13, "the first MINUTE from now on (1 .. 99)");
        c.due("out() at 999", x.out(), 1);
        c.due("minute stays", x.count(2), 999);
    }
}
