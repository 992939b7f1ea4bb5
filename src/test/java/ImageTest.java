/** Promises 27 and 28: image, on. */
public final class ImageTest {
    private static final Checks c = new Checks();

    public static void main(String[] args) {
        none();
        allIsAsThen();
        whatIsNotInIt();
        theLaterOne();
        c.end();
    }

    private static void none() {
        NeverBothDoors x = new NeverBothDoors();
        c.due("none", x.on(), -3);
        c.due("none", x.on(), -3);
        c.due("of a new one", x.image(), 0);
        c.due("on", x.on(), 0);
        c.dueRefusals("none", x, 0, 0, 2, 0, 0, 0);
    }

    private static void allIsAsThen() {
        NeverBothDoors x = Checks.burrowOf("r0,50;k13;l0625;pp01,7;pc02,1;s11;");
        x.open(0, 1);
        x.minutes(3);
        c.due("taken", x.image(), 3);
        x.open(0, 0);
        x.leak(1, 9);
        c.due("out", x.passes(0, 0), 6);
        c.due("out", x.passes(1, 0), 6);
        x.minutes(9);
        Checks.told(x, "r5,1;s50;s10;l1211;ph33,3;");
        c.due("on", x.on(), 3);
        c.due("minute", x.count(2), 3);
        c.due("air", x.room(0, 0), 41);
        c.due("leak", x.room(1, 1), 3);
        c.due("air 1", x.room(1, 0), 91);
        c.due("air 5", x.room(5, 0), 100);
        c.due("door", x.lock(0, 4), 1);
        c.due("place", x.person(0, 1), 0);
        c.due("suit", x.person(0, 3), 7);
        c.due("suit", x.person(1, 3), 1);
        c.due("locks", x.count(0), 1);
        c.due("people", x.count(1), 2);
        c.due("gasps", x.count(5), 0);
        c.due("suits", x.fitted(), 1);
        c.due("no second lock", x.lock(1, 0), -1);
        x.minutes(20);
        c.due("on again", x.on(), 3);
        c.due("minute again", x.count(2), 3);
    }

    private static void whatIsNotInIt() {
        NeverBothDoors x = new NeverBothDoors();
        x.row(1);
        x.letter('k');
        x.room(9, 0);
        x.image();
        x.row(2);
        x.letter('1');
        x.room(0, 9);
        x.on();
        c.due("the row stays", x.count(6), 2);
        c.due("the letters stay", x.count(7), 2);
        c.dueRefusals("not in it", x, 1, 1, 0, 0, 0, 0);
        x.letter('2');
        x.letter(';');
        c.due("and go on", x.burrow(), 1);
    }

    private static void theLaterOne() {
        NeverBothDoors x = Checks.burrowOf("r0,0;pp01,0;");
        x.minutes(1);
        c.due("first", x.image(), 1);
        x.minutes(4);
        c.due("gasps", x.count(5), 5);
        c.due("second", x.image(), 5);
        x.minutes(9);
        c.due("on from the second", x.on(), 5);
        c.due("gasps so far", x.count(5), 5);
        c.due("goes on", x.minutes(2), 2);
        c.due("gasps so far", x.count(5), 7);
    }
}
