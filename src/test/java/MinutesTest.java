/** Promises 9 to 13: minutes, leak, air, gasps, out. */
public final class MinutesTest {
    private static final Checks c = new Checks();

    public static void main(String[] args) {
        airGetsLess();
        gaspsInRooms();
        gaspsOutside();
        mostMinute();
        minuteRefusals();
        leaks();
        airBehind();
        gaspsInMind();
        outFirst();
        c.end();
    }

    private static void airGetsLess() {
        NeverBothDoors x = Checks.burrowOf("k04;r1,5;k13;pp21,0;ps21,0;ps31,0;");
        c.due("no gasps", x.minutes(1), 0);
        c.due("leak", x.room(0, 0), 96);
        c.due("little", x.room(1, 0), 2);
        c.due("breath", x.room(2, 0), 97);
        c.due("alone asleep", x.room(3, 0), 100);
        c.due("again", x.minutes(2), 0);
        c.due("leak", x.room(0, 0), 88);
        c.due("0 at least", x.room(1, 0), 0);
        c.due("breath", x.room(2, 0), 91);
        c.due("minute", x.count(2), 3);
    }

    private static void gaspsInRooms() {
        NeverBothDoors x = Checks.burrowOf("r0,6;pp01,0;pc01,0;pt01,0;");
        c.due("down to just 0", x.minutes(2), 0);
        c.due("all three", x.minutes(1), 3);
        c.due("so far", x.count(5), 3);
        c.due("and so on", x.minutes(4), 12);
        c.due("so far", x.count(5), 15);
        NeverBothDoors cat = Checks.burrowOf("r0,0;pt01,0;");
        c.due("a cat needs none", cat.minutes(9), 0);
        cat.leak(0, 1);
        c.due("but gasps by a leak", cat.minutes(9), 9);
    }

    private static void gaspsOutside() {
        NeverBothDoors x = Checks.burrowOf("pt61,0;pp62,2;ps03,7;");
        c.due("without a suit", x.minutes(1), 1);
        c.due("suit less", x.person(1, 3), 1);
        c.due("suit 0 stays", x.person(0, 3), 0);
        c.due("inside it stays", x.person(2, 3), 7);
        c.due("to 0 without a gasp", x.minutes(1), 1);
        c.due("then both", x.minutes(1), 2);
    }

    private static void mostMinute() {
        NeverBothDoors x = new NeverBothDoors();
        for (int i = 0; i < 10; i++) {
            c.due("99", x.minutes(99), 0);
        }
        c.due("1000", x.minutes(10), -6);
        c.due("not gone", x.count(2), 990);
        c.due("999", x.minutes(9), 0);
        c.due("1000", x.minutes(1), -6);
        c.due("below ahead", x.minutes(0), -4);
        c.due("minute", x.count(2), 999);
        c.due("in mind there is more", x.gasps(99), 0);
    }

    private static void minuteRefusals() {
        NeverBothDoors x = new NeverBothDoors();
        c.due("0", x.minutes(0), -4);
        c.due("-1", x.minutes(-1), -4);
        c.due("100", x.minutes(100), -6);
        c.due("greatest", x.minutes(Integer.MAX_VALUE), -6);
        c.due("least", x.minutes(Integer.MIN_VALUE), -4);
        c.due("minute", x.count(2), 0);
        c.dueRefusals("minutes", x, 0, 0, 0, 3, 0, 2);
    }

    private static void leaks() {
        NeverBothDoors x = Checks.burrowOf("k23;");
        c.due("what it was", x.leak(2, 9), 3);
        c.due("what it was", x.leak(2, 0), 9);
        c.due("now", x.room(2, 1), 0);
        c.due("the others", x.leak(1, 5), 0);
        c.due("no room", x.leak(6, -1), -1);
        c.due("no room", x.leak(-1, 10), -1);
        c.due("below", x.leak(0, -1), -4);
        c.due("above", x.leak(0, 10), -6);
        c.due("all leaks", x.count(4), 5);
        c.dueRefusals("leak", x, 2, 0, 0, 1, 0, 1);
    }

    private static void airBehind() {
        NeverBothDoors x = Checks.burrowOf("k03;pp01,0;r1,999;k19;");
        c.due("now", x.air(0, 0), 100);
        c.due("1", x.air(0, 1), 95);
        c.due("20", x.air(0, 20), 0);
        c.due("99", x.air(0, 99), 0);
        c.due("99 of much", x.air(1, 99), 108);
        c.due("nobody there", x.air(2, 99), 100);
        c.due("in mind", x.room(0, 0), 100);
        c.due("in mind", x.count(2), 0);
        c.due("no room", x.air(6, -1), -1);
        c.due("no room", x.air(-1, 100), -1);
        c.due("below", x.air(0, -1), -4);
        c.due("above", x.air(0, 100), -6);
        c.dueRefusals("air", x, 2, 0, 0, 1, 0, 1);
    }

    private static void gaspsInMind() {
        NeverBothDoors x = Checks.burrowOf("r0,4;pp01,0;pc62,3;");
        c.due("0", x.gasps(0), 0);
        c.due("2", x.gasps(2), 0);
        c.due("3", x.gasps(3), 1);
        c.due("4", x.gasps(4), 3);
        c.due("99", x.gasps(99), 97 + 96);
        c.due("in mind", x.count(5), 0);
        c.due("in mind", x.person(1, 3), 3);
        c.due("below", x.gasps(-1), -4);
        c.due("above", x.gasps(100), -6);
        c.dueRefusals("gasps", x, 0, 0, 0, 1, 0, 1);
        x.minutes(5);
        c.due("from now on", x.gasps(1), 2);
    }

    private static void outFirst() {
        NeverBothDoors x = new NeverBothDoors();
        c.due("nobody", x.out(), -9);
        Checks.told(x, "pp01,0;");
        c.due("100 by 2", x.out(), 51);
        Checks.told(x, "pp61,7;");
        c.due("the suit", x.out(), 8);
        c.due("in mind", x.count(2), 0);
        x.minutes(3);
        c.due("from now on", x.out(), 5);
        x.minutes(5);
        c.due("the next", x.out(), 1);
        c.due("the 99th", Checks.burrowOf("r0,98;pc01,0;").out(), 99);
        c.due("none in 99", Checks.burrowOf("r0,99;pc01,0;").out(), -9);
        c.dueRefusals("out", x, 0, 0, 0, 0, 0, 0);
    }
}
