/** Boundary cases of promises 27 and 28: image, on. */
public final class ImageEdgesTest {
    private static final Checks c = new Checks();

    public static void main(String[] args) {
        promise27LeastAndGreatestMinute();
        promise27NothingElseChanges();
        promise27TheLaterOne();
        promise28None();
        promise28AllIsAsThen();
        promise28OfNothingAndOfAll();
        promise28NoDoorIsLeft();
        promise28NotInIt();
        promise28AgainAndAgain();
        promise28ARefusedCallKeepsIt();
        c.end();
    }

    private static void promise27LeastAndGreatestMinute() {
        c.sentence(27, "THE IMAGE is taken: MINUTE.");
        NeverBothDoors x = new NeverBothDoors();
        c.due("image() at 0", x.image(), 0);
        x.minutes(1);
        c.due("image() at 1", x.image(), 1);
        Edges.atMinute(x, 999);
        c.due("image() at 999", x.image(), 999);
        c.due("on() at 999", x.on(), 999);
        c.due("a minute more", x.minutes(1), -6);
        c.dueRefusals("the minute's alone", x, 0, 0, 0, 0, 0, 1);
    }

    private static void promise27NothingElseChanges() {
        c.sentence(27, "THE IMAGE is taken: MINUTE.");
        NeverBothDoors x = Edges.lived();
        x.room(6, 0);
        int[] before = new int[17];
        for (int what = 0; what < before.length; what++) {
            before[what] = x.count(what);
        }
        x.image();
        for (int what = 0; what < before.length; what++) {
            c.due("count(" + what + ") behind image()", x.count(what), before[what]);
        }
        x.on();
        NeverBothDoors y = Edges.livedWithoutImage();
        y.image();
        Edges.dueSame(c, "on() at once behind image()", x, y);
    }

    private static void promise27TheLaterOne() {
        c.sentence(27, "THE IMAGE is taken");
        NeverBothDoors x = new NeverBothDoors();
        for (int minute = 1; minute <= 5; minute++) {
            x.minutes(1);
            c.due("image()", x.image(), minute);
        }
        x.minutes(9);
        c.due("on() is from the latest", x.on(), 5);
    }

    private static void promise28None() {
        c.sentence(28, "ON from it: MINUTE. -3 there is none.");
        Edges.refused(c, NeverBothDoors::new, "on(), nothing there", x -> x.on(), -3);
        Edges.refused(c, Edges::livedWithoutImage, "on(), no image", x -> x.on(), -3);
        NeverBothDoors x = new NeverBothDoors();
        c.due("on()", x.on(), -3);
        c.due("on() again", x.on(), -3);
        x.image();
        c.due("on() now", x.on(), 0);
        c.dueRefusals("two", x, 0, 0, 2, 0, 0, 0);
    }

    private static void promise28AllIsAsThen() {
        c.sentence(28, "all that is told, DOORS, MINUTE, GASPS so far (not the ROW, letters, REFUSALS); ON from it all is as then");
        NeverBothDoors x = Edges.lived();
        x.image();
        NeverBothDoors y = Edges.lived();
        y.image();
        x.open(0, 1);
        x.open(4, 0);
        x.open(3, 0);
        x.leak(0, 9);
        x.passes(2, 1);
        x.minutes(50);
        x.letter(';');
        x.burrow();
        c.due("all told anew", Checks.told(x, "r3,1;k39;l0699;pw61,1;s15;s20;s35;"), 7);
        c.due("on()", x.on(), 6);
        x.letter('k');
        x.letter('4');
        Edges.dueSame(c, "on()", x, y);
    }

    private static void promise28OfNothingAndOfAll() {
        c.sentence(28, "ON from it all is as then");
        NeverBothDoors x = Edges.full();
        c.due("on() from an image of nothing", x.on(), 0);
        c.due("nobody", x.count(1), 0);
        c.due("no locks", x.count(0), 0);
        c.due("all air", x.count(3), 600);
        c.due("gasps", x.count(5), 0);
        c.due("no lock", x.lock(0, 0), -1);
        c.due("nobody", x.person(0, 0), -1);
        x.burrow();
        Checks.told(x, "pp01,0;");
        c.due("no suits", x.fitted(), 0);
        NeverBothDoors full = Edges.full();
        full.image();
        full.burrow();
        full.leak(0, 9);
        c.due("on() from an image of all", full.on(), 999);
        c.due("leak", full.room(0, 1), 0);
        c.due("locks", full.count(0), 7);
        c.due("people", full.count(1), 5);
        c.due("minute", full.count(2), 999);
        c.due("no room for a lock", Checks.told(full, "l0111;"), -2000);
        c.due("no room for one more", Checks.told(full, "pp01,0;"), -2000);
    }

    private static void promise28NoDoorIsLeft() {
        c.sentence(28, "ON from it all is as then");
        NeverBothDoors x = Checks.burrowOf("l0111;");
        x.image();
        Checks.told(x, "l2311;");
        x.open(1, 2);
        x.on();
        Checks.told(x, "l2411;");
        c.due("both are shut at first, though that one's was open", x.lock(1, 4), 0);
    }

    private static void promise28NotInIt() {
        c.sentence(28, "(not the ROW, letters, REFUSALS)");
        NeverBothDoors x = new NeverBothDoors();
        x.image();
        x.row(7);
        x.letter('k');
        x.room(6, 0);
        x.room(0, 9);
        x.gauges(0, 0);
        x.row(-1);
        x.row(1000);
        x.on();
        c.due("the row stays", x.count(6), 1);
        c.due("the letters stay", x.count(7), 1);
        c.dueRefusals("refusals stay", x, 1, 1, 1, 1, 0, 1);
        c.due("the row has what it had", x.row(8), 2);
        x.image();
        x.clear();
        x.burrow();
        x.on();
        c.due("the row comes not back", x.count(6), 0);
        c.due("nor the letters", x.count(7), 0);
    }

    private static void promise28AgainAndAgain() {
        c.sentence(28, "ON from it: MINUTE.");
        NeverBothDoors x = Checks.burrowOf("pp61,1;l0611;");
        x.minutes(2);
        x.image();
        for (int i = 1; i <= 5; i++) {
            c.due("gasps on from it", x.minutes(i), i);
            c.due("in", x.passes(0, 0), 0);
            c.due("on() " + i, x.on(), 2);
            c.due("outside as then", x.person(0, 1), 6);
            c.due("gasps as then", x.count(5), 1);
        }
    }

    private static void promise28ARefusedCallKeepsIt() {
        c.sentence(28, "nothing changes but how many there were");
        NeverBothDoors x = Checks.burrowOf("pp01,0;");
        x.minutes(3);
        x.image();
        x.minutes(3);
        x.minutes(0);
        x.passes(0, 0);
        x.seeds(31, 0);
        c.due("on()", x.on(), 3);
    }
}
