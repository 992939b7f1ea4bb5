/** Promises 21 to 25: row, gauges, judge, ends, clear. */
public final class RowTest {
    private static final Checks c = new Checks();

    public static void main(String[] args) {
        rows();
        gauges();
        gaugesOfNothing();
        gaugesWithBreath();
        gaugeRefusals();
        judged();
        judgedNobodyAndNothing();
        endsOfWhatCanBe();
        judgedBeyondTheGreatestMinute();
        c.end();
    }

    private static void rows() {
        NeverBothDoors x = new NeverBothDoors();
        c.due("none to clear", x.clear(), 0);
        c.due("below", x.row(-1), -4);
        c.due("above", x.row(1000), -6);
        for (int i = 1; i <= 12; i++) {
            c.due("row " + i, x.row(i == 1 ? 0 : 999), i);
        }
        c.due("13th", x.row(0), -6);
        c.due("13th below", x.row(-1), -4);
        c.due("twelve", x.count(6), 12);
        c.due("cleared", x.clear(), 12);
        c.due("none", x.count(6), 0);
        c.due("again", x.row(5), 1);
        c.dueRefusals("row", x, 0, 0, 0, 2, 0, 2);
    }

    private static void dueGauges(NeverBothDoors x, String where, int n, int many, int first, int so) {
        c.due(where + ": how many", x.gauges(n, 0), many);
        c.due(where + ": the first", x.gauges(n, 1), first);
        c.due(where + ": so", x.gauges(n, 2), so);
    }

    private static void gauges() {
        NeverBothDoors x = Checks.burrowOf("k32;");
        Checks.row(x, 100, 100, 100, 90, 100, 100);
        dueGauges(x, "as it is", 5, 0, -9, 1);
        c.due("the row stays", x.count(6), 6);
        Checks.row(x, 100, 100, 100, 100, 100, 100);
        dueGauges(x, "no leak", 5, 1, 30, 0);
        Checks.row(x, 100, 100, 100, 55, 100, 100);
        dueGauges(x, "leak 9", 5, 1, 39, 0);
        Checks.row(x, 100, 100, 100, 50, 100, 100);
        dueGauges(x, "leak 10 is none", 5, 0, -9, 0);
        Checks.row(x, 100, 95, 100, 90, 100, 100);
        dueGauges(x, "another room", 5, 1, 11, 0);
        Checks.row(x, 100, 95, 100, 85, 100, 100);
        dueGauges(x, "two rooms", 5, 0, -9, 0);
        Checks.row(x, 100, 100, 100, 0, 100, 100);
        dueGauges(x, "all gone", 25, 6, 34, 0);
        Checks.row(x, 100, 100, 100, 100, 100, 0);
        dueGauges(x, "another gone, but 3 is not so", 99, 0, -9, 0);
        Checks.row(x, 100, 100, 100, 0, 100, 0);
        dueGauges(x, "another gone", 99, 8, 52, 0);
        Checks.row(x, 99, 100, 100, 90, 100, 100);
        dueGauges(x, "the first room", 5, 0, -9, 0);
        Checks.row(x, 95, 100, 100, 90, 100, 100);
        dueGauges(x, "the first room's leak", 5, 1, 1, 0);
        Checks.row(x, 100, 100, 100, 0, 100, 100);
        dueGauges(x, "all gone as it is, and by others too", 50, 7, 33, 1);
        c.due("in mind", x.room(3, 1), 2);
        c.due("in mind", x.count(2), 0);
    }

    private static void gaugesOfNothing() {
        NeverBothDoors x = Checks.burrowOf("k00;k59;");
        Checks.row(x, 100, 100, 100, 100, 100, 100);
        // Behind no minutes any other leak is as good: nine of each room.
        dueGauges(x, "no minutes", 0, 54, 1, 1);
        Checks.row(x, 100, 100, 100, 100, 100, 99);
        dueGauges(x, "no minutes, not so", 0, 0, -9, 0);
    }

    private static void gaugesWithBreath() {
        NeverBothDoors x = Checks.burrowOf("pw11,0;pt61,0;");
        Checks.row(x, 100, 60, 100, 100, 100, 100);
        dueGauges(x, "breath", 10, 0, -9, 1);
        Checks.row(x, 100, 30, 100, 100, 100, 100);
        dueGauges(x, "breath and leak", 10, 1, 13, 0);
    }

    private static void gaugeRefusals() {
        NeverBothDoors x = new NeverBothDoors();
        c.due("below ahead of all", x.gauges(-1, 3), -4);
        c.due("above ahead of what", x.gauges(100, 3), -6);
        c.due("what ahead of state", x.gauges(0, 3), -2);
        c.due("what below", x.gauges(0, -1), -2);
        c.due("no row", x.gauges(0, 0), -3);
        Checks.row(x, 1, 2, 3, 4, 5);
        c.due("five", x.gauges(99, 2), -3);
        x.row(6);
        c.due("six", x.gauges(99, 2), 0);
        x.row(7);
        c.due("seven", x.gauges(0, 1), -3);
        c.dueRefusals("gauges", x, 0, 2, 3, 1, 0, 1);
    }

    private static void judged() {
        NeverBothDoors x = Checks.burrowOf("l0112;l1213;l2614;pp01,0;pp61,9;");
        c.due("none", x.judge(), -9);
        Checks.row(x, 0, 1, 2, 12);
        c.due("the fourth goes in with both: all can be", x.judge(), -9);
        Checks.row(x, 1);
        c.due("the first is not at it", x.judge(), 0);
        Checks.row(x, 0, 1, 0);
        c.due("the third is there no more", x.judge(), 2);
        Checks.row(x, 0, 0, 0, 1, 1, 11, 12);
        c.due("of several the first", x.judge(), 5);
        c.due("the row stays", x.count(6), 7);
        c.due("in mind", x.person(0, 1), 0);
        c.due("in mind", x.count(2), 0);
        x.open(1, 2);
        Checks.row(x, 0, 1);
        c.due("a door is open", x.judge(), 1);
        x.open(1, 0);
        c.due("shut", x.judge(), -9);
        c.dueRefusals("judge", x, 0, 0, 0, 0, 0, 0);
        NeverBothDoors last = Checks.burrowOf("l0111;l0111;l0111;l0111;l0111;l0111;l0111;");
        Checks.told(last, "pp51,0;pp51,0;pp51,0;pp51,0;pp01,0;");
        Checks.row(last, 46, 46, 36);
        c.due("the last of people and of locks", last.judge(), 2);
    }

    private static void judgedNobodyAndNothing() {
        NeverBothDoors x = new NeverBothDoors();
        Checks.row(x, 0);
        c.due("nobody", x.judge(), 0);
        c.due("nobody", x.ends(), 0);
        Checks.told(x, "l0111;pp01,0;");
        Checks.row(x, 0, 10);
        c.due("no such one", x.judge(), 1);
        Checks.row(x, 0, 1);
        c.due("no such lock", x.judge(), 1);
        Checks.row(x, 0, 999);
        c.due("no such ones", x.judge(), 1);
        Checks.row(x, 0, 0, 7);
        c.due("no lock 7", x.judge(), 2);
    }

    private static void endsOfWhatCanBe() {
        NeverBothDoors x = Checks.burrowOf("l0605;l0117;pp01,2;pc02,0;");
        c.due("nothing told", x.ends(), 0);
        Checks.row(x, 0);
        c.due("5 outside with 2", x.ends(), 3);
        Checks.row(x, 0, 0);
        c.due("and back", x.ends(), 3);
        Checks.row(x, 0, 1, 0);
        c.due("ahead of that one", x.ends(), 3);
        c.due("ahead of that one", x.judge(), 1);
        Checks.row(x, 0, 0, 0);
        c.due("out again with none", x.ends(), 8);
        Checks.row(x, 0, 10, 0);
        c.due("two outside", x.ends(), 3 + 10 + 5);
        c.due("in mind", x.count(5), 0);
        c.due("in mind", x.person(0, 3), 2);
        x.passes(0, 0);
        c.due("some so far", x.count(5), 3);
        Checks.row(x, 0, 0);
        c.due("these alone", x.ends(), 5);
        c.due("the row stays", x.count(6), 2);
        NeverBothDoors air = Checks.burrowOf("l0693;r0,10;pp61,9;pw01,0;");
        Checks.row(air, 0);
        // 10 less 9 is less than 6 a minute: both gasp in each of 3.
        c.due("the size is taken", air.ends(), 6);
    }

    private static void judgedBeyondTheGreatestMinute() {
        NeverBothDoors x = Checks.burrowOf("l0119;pt01,0;");
        for (int i = 0; i < 11; i++) {
            x.minutes(i < 10 ? 99 : 9);
        }
        Checks.row(x, 0, 0, 0);
        c.due("999 now", x.count(2), 999);
        c.due("no greatest", x.judge(), -9);
        c.due("no greatest", x.ends(), 0);
        c.due("but not in earnest", x.passes(0, 0), -6);
        c.due("seeds neither", x.seeds(3, 5), 3);
    }
}
