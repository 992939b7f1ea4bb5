import java.util.function.Supplier;

/** Boundary cases of promises 21 to 25: row, gauges, judge, ends, clear. */
public final class RowEdgesTest {
    private static final Checks c = new Checks();

    public static void main(String[] args) {
        promise21LeastAndGreatest();
        promise21Refusals();
        promise22LeastAndGreatestMinutes();
        promise22LeastAndGreatestLeak();
        promise22OneRoomAlone();
        promise22AnotherLeak();
        promise22LeastAndGreatestAir();
        promise22Refusals();
        promise22JustSix();
        promise22RefusalsAtOnce();
        promise23None();
        promise23FirstAndLast();
        promise23CanNotBe();
        promise23NoGreatestMinute();
        promise24LeastAndMost();
        promise24AheadOfThatOne();
        promise25HowMany();
        theRowStays();
        c.end();
    }

    private static void promise21LeastAndGreatest() {
        c.sentence(21, "A number more of the ROW (0 .. 999): how many.");
        NeverBothDoors x = new NeverBothDoors();
        c.due("none yet", x.count(6), 0);
        for (int i = 1; i <= 12; i++) {
            c.due("number " + i, x.row(i % 2 == 0 ? 999 : 0), i);
            c.due("count(6)", x.count(6), i);
        }
        c.due("number 13", x.row(0), -6);
        c.due("count(6)", x.count(6), 12);
        x.clear();
        c.due("the first again", x.row(999), 1);
    }

    private static void promise21Refusals() {
        c.sentence(21, "how many. -4; -6 (999; 12, too).");
        Edges.refused(c, Edges::lived, "row(-1)", x -> x.row(-1), -4);
        Edges.refused(c, Edges::lived, "row(least)", x -> x.row(Edges.LEAST), -4);
        Edges.refused(c, Edges::lived, "row(1000)", x -> x.row(1000), -6);
        Edges.refused(c, Edges::lived, "row(greatest)", x -> x.row(Edges.GREATEST), -6);
        Edges.refused(c, Edges::full, "row(0), the 13th", x -> x.row(0), -6);
        Edges.refused(c, Edges::full, "row(1000), the 13th, too", x -> x.row(1000), -6);
        Edges.refused(c, Edges::full, "row(-1), the 13th, too", x -> x.row(-1), -4);
    }

    private static void dueGauges(NeverBothDoors x, int n, int many, int first, int so) {
        c.due("gauges(" + n + ", 0)", x.gauges(n, 0), many);
        c.due("gauges(" + n + ", 1)", x.gauges(n, 1), first);
        c.due("gauges(" + n + ", 2)", x.gauges(n, 2), so);
    }

    private static void promise22LeastAndGreatestMinutes() {
        c.sentence(22, "a ROW (AIR of ROOMS 0 .. 5 told, six numbers 0 .. 999) behind n MINUTES (0 .. 99)");
        NeverBothDoors x = Checks.burrowOf("k01;r5,999;k59;");
        Checks.row(x, 100, 100, 100, 100, 100, 999);
        // Behind no minutes all nine other leaks of each room are as good.
        dueGauges(x, 0, 54, 0, 1);
        Checks.row(x, 99, 100, 100, 100, 100, 990);
        dueGauges(x, 1, 0, -9, 1);
        dueGauges(x, 0, 0, -9, 0);
        dueGauges(x, 2, 0, -9, 0);
        Checks.row(x, 1, 100, 100, 100, 100, 108);
        dueGauges(x, 99, 0, -9, 1);
        dueGauges(x, 98, 0, -9, 0);
    }

    private static void promise22LeastAndGreatestLeak() {
        c.sentence(22, "in how many ways one ROOM alone having another LEAK (0 .. 9) would make all so; the first (10 times the ROOM and the LEAK; -9)");
        NeverBothDoors x = Checks.burrowOf("k05;k55;");
        for (int leak = -1; leak <= 10; leak++) {
            boolean another = leak >= 0 && leak <= 9 && leak != 5;
            int so = leak == 5 ? 1 : 0;
            int told = 100 - 10 * leak;
            Checks.row(x, told, 100, 100, 100, 100, 50);
            dueGauges(x, 10, another ? 1 : 0, another ? leak : -9, so);
            Checks.row(x, 50, 100, 100, 100, 100, told);
            dueGauges(x, 10, another ? 1 : 0, another ? 50 + leak : -9, so);
        }
    }

    private static void promise22OneRoomAlone() {
        c.sentence(22, "one ROOM alone having another LEAK");
        NeverBothDoors x = Checks.burrowOf("k22;");
        Checks.row(x, 100, 100, 80, 100, 100, 100);
        dueGauges(x, 10, 0, -9, 1);
        for (int room = 0; room < 6; room++) {
            int[] told = {100, 100, 80, 100, 100, 100};
            told[room] = 70;
            Checks.row(x, told);
            dueGauges(x, 10, 1, 10 * room + 3, 0);
            told[(room + 1) % 6] -= 10;
            Checks.row(x, told);
            dueGauges(x, 10, 0, -9, 0);
        }
    }

    private static void promise22AnotherLeak() {
        c.sentence(22, "SO: 1 all is so by LEAKS as they are, 0.");
        NeverBothDoors x = Checks.burrowOf("r0,10;k05;");
        Checks.row(x, 0, 100, 100, 100, 100, 100);
        // 10 are gone behind 5 minutes by a leak of 2 to 9; the one that is, 5, is not another.
        dueGauges(x, 5, 7, 2, 1);
        x.leak(0, 2);
        dueGauges(x, 5, 7, 3, 1);
        x.leak(0, 1);
        dueGauges(x, 5, 8, 2, 0);
    }

    private static void promise22LeastAndGreatestAir() {
        c.sentence(22, "six numbers 0 .. 999");
        NeverBothDoors x = Checks.burrowOf("r0,0;r1,999;r2,0;r3,999;r4,0;r5,999;");
        Checks.row(x, 0, 999, 0, 999, 0, 999);
        // No air is none by any leak: nine others of three rooms.
        dueGauges(x, 99, 27, 1, 1);
        dueGauges(x, 0, 54, 1, 1);
        Checks.row(x, 0, 999, 0, 999, 0, 0);
        dueGauges(x, 99, 0, -9, 0);
        Checks.row(x, 0, 999, 0, 999, 1, 999);
        dueGauges(x, 0, 0, -9, 0);
    }

    private static NeverBothDoors withRowOf(int many) {
        NeverBothDoors x = Edges.lived();
        x.clear();
        for (int i = 0; i < many; i++) {
            x.row(100);
        }
        return x;
    }

    private static Supplier<NeverBothDoors> rowOf(int many) {
        return () -> withRowOf(many);
    }

    private static void promise22Refusals() {
        c.sentence(22, "(the ROW stays). -4; -6 99; -2; -3 the ROW has not just six numbers.");
        Edges.refused(c, Edges::lived, "gauges(-1, 0)", x -> x.gauges(-1, 0), -4);
        Edges.refused(c, Edges::lived, "gauges(least, 2)", x -> x.gauges(Edges.LEAST, 2), -4);
        Edges.refused(c, Edges::lived, "gauges(100, 0)", x -> x.gauges(100, 0), -6);
        Edges.refused(c, Edges::lived, "gauges(greatest, 2)", x -> x.gauges(Edges.GREATEST, 2), -6);
        Edges.refused(c, Edges::lived, "gauges(0, -1)", x -> x.gauges(0, -1), -2);
        Edges.refused(c, Edges::lived, "gauges(99, 3)", x -> x.gauges(99, 3), -2);
        Edges.refused(c, Edges::lived, "gauges(0, least)", x -> x.gauges(0, Edges.LEAST), -2);
        Edges.refused(c, Edges::lived, "gauges(0, greatest)", x -> x.gauges(0, Edges.GREATEST), -2);
    }

    private static void promise22JustSix() {
        c.sentence(22, "-3 the ROW has not just six numbers.");
        for (int many = 0; many <= 12; many++) {
            for (int what = 0; what <= 2; what++) {
                int asked = what;
                if (many != 6) {
                    Edges.refused(c, rowOf(many), "gauges(0, " + what + ") of " + many, x -> x.gauges(0, asked), -3);
                }
            }
        }
        c.due("of six", withRowOf(6).gauges(0, 2), 0);
        c.due("of six of 99", withRowOf(6).gauges(99, 0), 0);
    }

    private static void promise22RefusalsAtOnce() {
        c.sentence(22, "-4; -6 99; -2; -3 the ROW has not just six numbers.");
        Edges.refused(c, Edges::lived, "below, and no such what", x -> x.gauges(-1, 3), -4);
        Edges.refused(c, rowOf(5), "below, and five", x -> x.gauges(-1, 0), -4);
        Edges.refused(c, rowOf(5), "below, no such what, and five", x -> x.gauges(-1, -1), -4);
        Edges.refused(c, Edges::lived, "above, and no such what", x -> x.gauges(100, 3), -6);
        Edges.refused(c, rowOf(7), "above, and seven", x -> x.gauges(100, 0), -6);
        Edges.refused(c, rowOf(7), "above, no such what, and seven", x -> x.gauges(100, -1), -6);
        Edges.refused(c, rowOf(0), "no such what, and none", x -> x.gauges(0, 3), -2);
        Edges.refused(c, rowOf(12), "no such what, and twelve", x -> x.gauges(99, -1), -2);
    }

    private static void promise23None() {
        c.sentence(23, "JUDGED; -9 (the ROW stays).");
        c.due("no row, nobody", new NeverBothDoors().judge(), -9);
        c.due("no row", Checks.burrowOf("l0111;pp01,0;").judge(), -9);
    }

    private static void promise23FirstAndLast() {
        c.sentence(23, "the ROW (12 numbers at most) as 10 times one of PEOPLE and a LOCK that he passes, one behind the other");
        NeverBothDoors x = Checks.burrowOf("l0101;".repeat(6) + "l4501;" + "pt01,0;".repeat(4) + "pt41,0;");
        for (int i = 1; i <= 12; i++) {
            x.row(46);
            c.due("all of " + i + " can be", x.judge(), -9);
        }
        for (int wrong = 0; wrong < 12; wrong++) {
            x.clear();
            for (int i = 0; i < 12; i++) {
                x.row(i == wrong ? 6 : 46);
            }
            c.due("place " + wrong + " can not be", x.judge(), wrong);
        }
        c.sentence(23, "the first that can not be");
        Checks.row(x, 46, 6, 47);
        c.due("of two the first", x.judge(), 1);
    }

    private static void promise23CanNotBe() {
        c.sentence(23, "the first that can not be");
        NeverBothDoors x = Checks.burrowOf("l0101;l1201;l2601;pt01,0;pt01,9;");
        for (int told : new int[] {1, 2, 3, 9, 11, 12, 13, 20, 21, 99, 100, 999}) {
            Checks.row(x, told);
            c.due("judge() of " + told, x.judge(), 0);
            c.due("ends() of " + told, x.ends(), 0);
        }
        Checks.row(x, 0);
        c.due("judge() of 0", x.judge(), -9);
        Checks.row(x, 10);
        c.due("judge() of 10", x.judge(), -9);
        Checks.row(x, 0, 1, 2, 2, 1, 0, 0, 10, 11);
        c.due("one behind the other", x.judge(), -9);
        for (int door = 1; door <= 2; door++) {
            x.open(1, door);
            c.due("door " + door + " is open", x.judge(), 1);
            x.open(1, 0);
        }
        c.due("shut again", x.judge(), -9);
    }

    private static NeverBothDoors late() {
        NeverBothDoors x = Checks.burrowOf("l0609;pt61,0;");
        Edges.atMinute(x, 999);
        Checks.row(x, 0, 0, 0);
        return x;
    }

    private static void promise23NoGreatestMinute() {
        c.sentence(23, "(in mind, where MINUTE has no greatest number)");
        NeverBothDoors x = late();
        c.due("passes(0, 0)", x.passes(0, 0), -6);
        c.due("judge()", x.judge(), -9);
        c.due("minute stays", x.count(2), 999);
        c.sentence(24, "(in mind, where MINUTE has no greatest number)");
        c.due("ends()", x.ends(), 9);
        c.due("gasps so far stay", x.count(5), 999);
    }

    private static void promise24LeastAndMost() {
        c.sentence(24, "ENDS: GASPS in all that can be");
        c.due("no row, nobody", new NeverBothDoors().ends(), 0);
        NeverBothDoors x = Checks.burrowOf("r0,0;r1,0;k09;k19;l0109;" + "pt01,0;".repeat(5));
        c.due("no row", x.ends(), 0);
        for (int i = 1; i <= 12; i++) {
            x.row(0);
            c.due("all five in 9 minutes, " + i + " times", x.ends(), 45 * i);
        }
        x.minutes(9);
        c.due("those so far aside", x.ends(), 540);
    }

    private static void promise24AheadOfThatOne() {
        c.sentence(24, "ahead of that one");
        NeverBothDoors x = Checks.burrowOf("l0604;pt61,0;pt61,9;");
        Checks.row(x, 10, 0, 10, 1, 10);
        c.due("the fourth can not be", x.judge(), 3);
        // 4 of the first outside, none, and none by the other's suit of 9.
        c.due("ends() ahead of it", x.ends(), 4);
        Checks.row(x, 1, 10);
        c.due("the first can not be", x.ends(), 0);
        Checks.row(x, 10, 1);
        c.due("one ahead", x.ends(), 4);
    }

    private static void promise25HowMany() {
        c.sentence(25, "The ROW has none then: how many it had.");
        NeverBothDoors x = new NeverBothDoors();
        c.due("none yet", x.clear(), 0);
        for (int many = 0; many <= 12; many++) {
            for (int i = 0; i < many; i++) {
                x.row(i);
            }
            c.due("clear() of " + many, x.clear(), many);
            c.due("count(6)", x.count(6), 0);
            c.due("clear() again", x.clear(), 0);
        }
        c.dueRefusals("never refused", x, 0, 0, 0, 0, 0, 0);
        NeverBothDoors full = Edges.full();
        full.clear();
        NeverBothDoors other = Edges.full();
        c.due("clear() of a full one", other.clear(), 12);
        Edges.dueSame(c, "clear()", full, other);
    }

    private static void theRowStays() {
        c.sentence(22, "(the ROW stays)");
        NeverBothDoors x = Edges.lived();
        for (int what = 0; what < 3; what++) {
            x.gauges(99, what);
        }
        Edges.dueSame(c, "gauges()", x, Edges.lived());
        c.sentence(23, "JUDGED; -9 (the ROW stays).");
        NeverBothDoors y = Edges.lived();
        y.judge();
        Edges.dueSame(c, "judge()", y, Edges.lived());
        c.sentence(24, "ENDS (the ROW stays).");
        NeverBothDoors z = Edges.lived();
        z.ends();
        Edges.dueSame(c, "ends()", z, Edges.lived());
    }
}
