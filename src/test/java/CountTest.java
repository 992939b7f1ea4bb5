/** Promise 29: count, and with it that refusals are counted and change nothing else. */
public final class CountTest {
    private static final Checks c = new Checks();

    public static void main(String[] args) {
        counts();
        anotherWhat();
        refusalsChangeNothing();
        c.end();
    }

    private static void counts() {
        NeverBothDoors x = Checks.burrowOf("r0,999;r1,0;k03;k59;l0111;l1211;l2311;pp01,0;pp61,0;");
        x.row(3);
        x.row(4);
        x.letter('a');
        x.minutes(4);
        int[] due = {3, 2, 4, 979 + 0 + 100 + 100 + 100 + 64, 12, 4, 2, 1};
        for (int what = 0; what < due.length; what++) {
            c.due("count(" + what + ")", x.count(what), due[what]);
        }
    }

    private static void anotherWhat() {
        NeverBothDoors x = new NeverBothDoors();
        int[] others = {-1, 8, 9, 10, 17, 18, 100, Integer.MIN_VALUE, Integer.MAX_VALUE};
        for (int what : others) {
            c.due("count(" + what + ")", x.count(what), -9);
        }
        c.dueRefusals("another what is no refusal", x, 0, 0, 0, 0, 0, 0);
    }

    private static void refusalsChangeNothing() {
        NeverBothDoors x = Checks.burrowOf("l0111;pp01,5;");
        x.minutes(2);
        x.open(0, 1);
        x.room(7, 0);
        x.lock(0, 7);
        x.person(3, 3);
        x.open(0, 2);
        x.passes(0, 0);
        x.minutes(0);
        x.minutes(100);
        x.leak(0, 77);
        x.leak(9, 7);
        x.row(-5);
        x.row(1000);
        x.letter(-3);
        x.seeds(44, 4);
        x.gauges(4, 0);
        x.on();
        c.dueRefusals("refused", x, 3, 1, 4, 3, 0, 4);
        int[] due = {1, 1, 2, 596, 0, 0, 0, 0};
        for (int what = 0; what < due.length; what++) {
            c.due("still count(" + what + ")", x.count(what), due[what]);
        }
        c.due("still the door", x.lock(0, 4), 1);
        c.due("still the place", x.person(0, 1), 0);
        c.due("still the suit", x.person(0, 3), 5);
    }
}
