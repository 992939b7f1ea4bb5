/** Boundary cases of promises 1 to 3: a new object, letter, burrow. */
public final class LettersEdgesTest {
    private static final String DIGITS = "0123456789";
    private static final Checks c = new Checks();

    public static void main(String[] args) {
        promise1NobodyNoLocks();
        promise1AtFirst();
        promise1ObjectsApart();
        promise2LeastAndGreatest();
        promise2All96();
        promise2Refusals();
        promise3AtLeastOneStatement();
        promise3Most();
        promise3SignsOfEachPlace();
        promise3SomethingLacks();
        promise3LastPlaces();
        promise3Air();
        promise3Leak();
        promise3Locks();
        promise3People();
        promise3Suits();
        promise3FirstStatement();
        promise3FormAheadOfSense();
        promise3NoRoomForMore();
        promise3AllOrNothing();
        promise3AreNoMore();
        c.end();
    }

    private static void promise1NobodyNoLocks() {
        c.sentence(1, "Six ROOMS, nobody, no LOCKS.");
        NeverBothDoors x = new NeverBothDoors();
        c.due("room(-1, 0)", x.room(-1, 0), -1);
        c.due("room(0, 0)", x.room(0, 0), 100);
        c.due("room(5, 0)", x.room(5, 0), 100);
        c.due("room(6, 0)", x.room(6, 0), -1);
        c.due("person(0, 0)", x.person(0, 0), -1);
        c.due("lock(0, 0)", x.lock(0, 0), -1);
        c.due("count(0)", x.count(0), 0);
        c.due("count(1)", x.count(1), 0);
    }

    private static void promise1AtFirst() {
        NeverBothDoors x = new NeverBothDoors();
        c.sentence(1, "ROOMS 0 .. 5 of AIR (0 .. 999: 100 at first) and LEAK (0 .. 9: 0 at first)");
        for (int room = 0; room < 6; room++) {
            c.due("room(" + room + ", 0)", x.room(room, 0), 100);
            c.due("room(" + room + ", 1)", x.room(room, 1), 0);
        }
        c.sentence(1, "MINUTE (0 at first)");
        c.due("count(2)", x.count(2), 0);
        c.due("count(5)", x.count(5), 0);
        c.due("count(6)", x.count(6), 0);
        c.due("count(7)", x.count(7), 0);
        c.dueRefusals("new", x, 0, 0, 0, 0, 0, 0);
        c.due("no image", x.on(), -3);
        c.sentence(1, "SUITS: of FITS 1 .. 5 so many (0 .. 5: 0 at first)");
        Checks.told(x, "pp01,0;pp02,0;pp03,0;pp04,0;pp05,0;");
        c.due("fitted()", x.fitted(), 0);
        c.due("bare()", x.bare(), 31);
        c.sentence(1, "both shut at first");
        Checks.told(x, Edges.SEVEN_LOCKS);
        for (int lock = 0; lock < 7; lock++) {
            c.due("lock(" + lock + ", 4)", x.lock(lock, 4), 0);
        }
    }

    private static void promise1ObjectsApart() {
        c.sentence(1, "Six ROOMS, nobody, no LOCKS.");
        NeverBothDoors full = Edges.full();
        NeverBothDoors x = new NeverBothDoors();
        c.due("room(0, 0) of a new one", x.room(0, 0), 100);
        c.due("count(7) of a new one", x.count(7), 0);
        c.due("count(7) of the full one", full.count(7), 96);
        c.due("count(0) of the full one", full.count(0), 7);
    }

    private static void promise2LeastAndGreatest() {
        c.sentence(2, "A letter (0 .. 255) comes: how many there are.");
        NeverBothDoors x = new NeverBothDoors();
        c.due("letter(0), the first", x.letter(0), 1);
        c.due("letter(255)", x.letter(255), 2);
        c.due("letter(128)", x.letter(128), 3);
        c.due("count(7)", x.count(7), 3);
        c.dueRefusals("taken", x, 0, 0, 0, 0, 0, 0);
    }

    private static void promise2All96() {
        c.sentence(2, "(96 at most)");
        NeverBothDoors x = new NeverBothDoors();
        for (int i = 1; i <= 96; i++) {
            c.due("letter " + i, x.letter('k'), i);
        }
        c.due("letter 97", x.letter('k'), -6);
        c.due("letter 98", x.letter(0), -6);
        c.due("count(7)", x.count(7), 96);
        x.burrow();
        c.due("the first behind a burrow", x.letter('k'), 1);
    }

    private static void promise2Refusals() {
        c.sentence(2, "-4; -6 (255; 96, too).");
        Edges.refused(c, Edges::lived, "letter(-1)", x -> x.letter(-1), -4);
        Edges.refused(c, Edges::lived, "letter(least)", x -> x.letter(Edges.LEAST), -4);
        Edges.refused(c, Edges::lived, "letter(256)", x -> x.letter(256), -6);
        Edges.refused(c, Edges::lived, "letter(greatest)", x -> x.letter(Edges.GREATEST), -6);
        Edges.refused(c, Edges::full, "letter 97", x -> x.letter('k'), -6);
        Edges.refused(c, Edges::full, "letter 97, above, too", x -> x.letter(256), -6);
        Edges.refused(c, Edges::full, "letter 97, below, too", x -> x.letter(-1), -4);
    }

    private static void burrow(String text, int want) {
        NeverBothDoors x = new NeverBothDoors();
        c.due("burrow() of " + text, Checks.told(x, text), want);
    }

    private static void promise3AtLeastOneStatement() {
        c.sentence(3, "At least one STATEMENT.");
        NeverBothDoors x = new NeverBothDoors();
        c.due("no letters yet", x.burrow(), -1000);
        c.due("none again", x.burrow(), -1000);
        burrow("k00;", 1);
        Edges.dueSame(c, "burrow() of no letters", x, new NeverBothDoors());
    }

    private static void promise3Most() {
        c.sentence(3, "(96 at most): STATEMENTS, each with \";\" behind");
        burrow("k12;".repeat(24), 24);
        burrow("k12;".repeat(23), 23);
        burrow("pp01,0;".repeat(5) + Edges.SEVEN_LOCKS + "r5,7;k03;s11;s21;", 16);
    }

    /** At each place of a statement just these signs go on; each of the others is a fault there. */
    private static void places(String statement, String... goingOn) {
        for (int at = 0; at < goingOn.length; at++) {
            String ahead = statement.substring(0, at);
            for (int sign = 0; sign < 256; sign++) {
                boolean goes = goingOn[at].indexOf(sign) >= 0;
                // What goes on lacks its end, the place behind it; but ";" ends the statement.
                int lacking = sign == ';' ? -1 : -1000 - (at + 1);
                int answer = Checks.told(new NeverBothDoors(), ahead + (char) sign);
                if (goes && lacking == -1) {
                    c.due(ahead + ";", answer > -1000 || answer <= -2000 ? 1 : 0, 1);
                } else {
                    c.due(ahead + " and sign " + sign, answer, goes ? lacking : -1000 - at);
                }
            }
        }
    }

    private static void promise3SignsOfEachPlace() {
        String first = "rklps";
        c.sentence(3, "\"r\" a ROOM (a digit) \",\" AIR (1 to 3 digits)");
        places("r1,234;", first, DIGITS, ",", DIGITS, DIGITS + ";", DIGITS + ";", ";", first);
        c.sentence(3, "\"k\" a ROOM, LEAK (a digit each)");
        places("k12;", first, DIGITS, DIGITS, ";", first);
        c.sentence(3, "\"l\" two PLACES, SIZE, CYCLE (a digit each)");
        places("l0123;", first, DIGITS, DIGITS, DIGITS, DIGITS, ";", first);
        c.sentence(3, "\"p\" a letter of a KIND, PLACE, FIT (a digit each) \",\" SUIT (1 or 2 digits)");
        places("pp12,34;", first, "pcwhts", DIGITS, DIGITS, ",", DIGITS, DIGITS + ";", ";", first);
        c.sentence(3, "\"s\" a FIT, how many SUITS (a digit each)");
        places("s12;", first, DIGITS, DIGITS, ";", first);
        c.sentence(3, "the place of the first letter with which no BURROW can go on");
        places("k12;r1,2;", first, DIGITS, DIGITS, ";", first, DIGITS, ",", DIGITS, DIGITS + ";", first);
    }

    private static void promise3SomethingLacks() {
        c.sentence(3, "(the end, if something lacks): -1000 less the place");
        String text = "r1,23;k45;l0123;pp01,23;s45;";
        for (int length = 0; length <= text.length(); length++) {
            String ahead = text.substring(0, length);
            int ended = ahead.length() - ahead.replace(";", "").length();
            burrow(ahead, ahead.endsWith(";") ? ended : -1000 - length);
        }
    }

    private static void promise3LastPlaces() {
        c.sentence(3, "(the end, if something lacks): -1000 less the place");
        burrow("k12;".repeat(23) + "r1,2", -1096);
        burrow("k12;".repeat(23) + "k12", -1095);
        burrow("k12;".repeat(23) + "k123", -1095);
        burrow("k12;".repeat(23) + "l123", -1096);
        c.sentence(3, "-2000 less the place");
        burrow("k12;".repeat(23) + "k62;", -2092);
        burrow("k62;" + "k12;".repeat(23), -2000);
    }

    private static void promise3Air() {
        c.sentence(3, "a number out of range, no such ROOM");
        burrow("r0,0;", 1);
        burrow("r5,999;", 1);
        burrow("r6,0;", -2000);
        burrow("r9,999;", -2000);
        c.sentence(3, "AIR (1 to 3 digits)");
        NeverBothDoors x = Checks.burrowOf("r0,0;r1,999;r2,9;r3,10;r4,99;r5,100;");
        int[] due = {0, 999, 9, 10, 99, 100};
        for (int room = 0; room < 6; room++) {
            c.due("room(" + room + ", 0)", x.room(room, 0), due[room]);
        }
        c.sentence(3, "Numbers may begin with 0.");
        NeverBothDoors y = Checks.burrowOf("r0,00;r1,000;r2,01;r3,007;r4,099;r5,090;");
        int[] dueY = {0, 0, 1, 7, 99, 90};
        for (int room = 0; room < 6; room++) {
            c.due("room(" + room + ", 0)", y.room(room, 0), dueY[room]);
        }
    }

    private static void promise3Leak() {
        c.sentence(3, "a number out of range, no such ROOM");
        NeverBothDoors x = Checks.burrowOf("k00;k59;k19;k10;");
        c.due("least", x.room(0, 1), 0);
        c.due("greatest", x.room(5, 1), 9);
        c.due("the later of two", x.room(1, 1), 0);
        burrow("k60;", -2000);
        burrow("k99;", -2000);
    }

    private static void promise3Locks() {
        c.sentence(3, "each between two unlike PLACES");
        for (int one = 0; one < 10; one++) {
            for (int two = 0; two < 10; two++) {
                NeverBothDoors x = new NeverBothDoors();
                boolean fits = one != two && one < 7 && two < 7;
                c.due("l" + one + two + "11;", Checks.told(x, "l" + one + two + "11;"), fits ? 1 : -2000);
                c.due("the lesser", x.lock(0, 0), fits ? Math.min(one, two) : -1);
                c.due("the other", x.lock(0, 1), fits ? Math.max(one, two) : -1);
            }
        }
        c.sentence(3, "SIZE (0 .. 9) and CYCLE (1 .. 9 MINUTES)");
        for (int size = 0; size < 10; size++) {
            for (int cycle = 0; cycle < 10; cycle++) {
                NeverBothDoors x = new NeverBothDoors();
                c.due("l01" + size + cycle + ";", Checks.told(x, "l01" + size + cycle + ";"), cycle > 0 ? 1 : -2000);
                c.due("size", x.lock(0, 2), cycle > 0 ? size : -1);
                c.due("cycle", x.lock(0, 3), cycle > 0 ? cycle : -1);
            }
        }
    }

    private static void promise3People() {
        c.sentence(3, "KIND, PLACE, FIT (1 .. 5), SUIT (0 .. 99 MINUTES)");
        for (int place = 0; place < 10; place++) {
            for (int fit = 0; fit < 10; fit++) {
                NeverBothDoors x = new NeverBothDoors();
                boolean fits = place < 7 && fit > 0 && fit < 6;
                c.due("pp" + place + fit + ",0;", Checks.told(x, "pp" + place + fit + ",0;"), fits ? 1 : -2000);
                c.due("place", x.person(0, 1), fits ? place : -1);
                c.due("fit", x.person(0, 2), fits ? fit : -1);
            }
        }
        c.sentence(3, "SUIT (1 or 2 digits)");
        NeverBothDoors x = Checks.burrowOf("pp01,0;pp01,99;pp01,9;pp01,10;pp01,1;");
        c.sentence(3, "Numbers may begin with 0.");
        NeverBothDoors y = Checks.burrowOf("pp01,00;pp01,01;pp01,09;pp01,90;pp01,05;");
        int[] due = {0, 99, 9, 10, 1};
        int[] dueY = {0, 1, 9, 90, 5};
        for (int person = 0; person < 5; person++) {
            c.due("person(" + person + ", 3)", x.person(person, 3), due[person]);
            c.due("person(" + person + ", 3) with 0 ahead", y.person(person, 3), dueY[person]);
        }
    }

    private static void promise3Suits() {
        c.sentence(3, "SUITS: of FITS 1 .. 5 so many (0 .. 5: 0 at first)");
        for (int fit = 0; fit < 10; fit++) {
            for (int many = 0; many < 10; many++) {
                NeverBothDoors x = new NeverBothDoors();
                boolean fits = fit > 0 && fit < 6 && many < 6;
                c.due("s" + fit + many + ";", Checks.told(x, "s" + fit + many + ";"), fits ? 1 : -2000);
                if (fit > 0 && fit < 6) {
                    Checks.told(x, ("pp0" + fit + ",0;").repeat(5));
                    c.due("fitted() by s" + fit + many + ";", x.fitted(), fits ? many : 0);
                }
            }
        }
    }

    private static void promise3FirstStatement() {
        c.sentence(3, "the first letter of the first STATEMENT that, behind all ahead of it in the text, is not as it must be");
        burrow("k60;k61;", -2000);
        burrow("k10;k60;k61;", -2004);
        burrow("r0,999;r6,1;k60;", -2007);
        burrow("k10;r0,1;l0011;", -2009);
        burrow("pp01,99;pp00,1;", -2008);
        burrow("s15;s16;s61;", -2004);
    }

    private static void promise3FormAheadOfSense() {
        c.sentence(3, "else kind 2");
        burrow("k60;x", -1004);
        burrow("r6,1;k60;l00", -1012);
        burrow("s99;s9", -1006);
        burrow("pp01,0;".repeat(6) + "l", -1043);
    }

    private static void promise3NoRoomForMore() {
        c.sentence(3, "no room for more");
        for (int there = 0; there <= 7; there++) {
            NeverBothDoors x = there == 0 ? new NeverBothDoors() : Checks.burrowOf("l0111;".repeat(there));
            c.due(there + " and one lock too many", Checks.told(x, "l0111;".repeat(8 - there)), -2000 - 6 * (7 - there));
            c.due("locks as they were", x.count(0), there);
            if (there < 7) {
                c.due(there + " and all that there is room for", Checks.told(x, "l5691;".repeat(7 - there)), 7 - there);
                c.due("the seventh", x.lock(6, 1), 6);
            }
        }
        for (int there = 0; there <= 5; there++) {
            NeverBothDoors x = there == 0 ? new NeverBothDoors() : Checks.burrowOf("pp01,0;".repeat(there));
            c.due(there + " and one too many", Checks.told(x, "pp01,0;".repeat(6 - there)), -2000 - 7 * (5 - there));
            c.due("people as they were", x.count(1), there);
            if (there < 5) {
                c.due(there + " and all that there is room for", Checks.told(x, "pc65,9;".repeat(5 - there)), 5 - there);
                c.due("the fifth", x.person(4, 0), 1);
            }
        }
        NeverBothDoors full = Checks.burrowOf(Edges.SEVEN_LOCKS + Edges.FIVE_PEOPLE);
        c.due("all else is taken with all places full", Checks.told(full, "r0,1;k12;s33;"), 3);
    }

    private static NeverBothDoors behind(String fault) {
        NeverBothDoors x = Edges.lived();
        x.burrow();
        int answer = Checks.told(x, fault);
        c.due(fault + " is a fault", answer <= -1000 ? 1 : 0, 1);
        return x;
    }

    private static void promise3AllOrNothing() {
        c.sentence(3, "Without FAULT all of it comes, with one nothing.");
        for (String good : new String[] {"r0,1;", "k19;", "l5645;", "pw32,7;", "s32;s15;"}) {
            Edges.dueSame(c, good + " ahead of kind 1", behind(good + "x"), behind("x"));
            Edges.dueSame(c, good + " ahead of the end", behind(good + "k1"), behind("x"));
            Edges.dueSame(c, good + " ahead of kind 2", behind(good + "k60;"), behind("x"));
            Edges.dueSame(c, good + " behind kind 2", behind("k60;" + good), behind("x"));
        }
        NeverBothDoors x = Edges.lived();
        x.burrow();
        c.due("all", Checks.told(x, "r0,1;k19;l5645;pw32,7;s32;"), 5);
        c.due("air", x.room(0, 0), 1);
        c.due("leak", x.room(1, 1), 9);
        c.due("locks", x.count(0), 7);
        c.due("the lock behind those there", x.lock(6, 0), 5);
        c.due("the one behind those there", x.person(3, 1), 3);
        c.due("suits", x.fitted(), 4);
        c.due("minute stays", x.count(2), 6);
        c.due("a door stays open", x.lock(4, 4), 1);
    }

    private static void promise3AreNoMore() {
        c.sentence(3, "The letters become a BURROW, and are no more (with a FAULT neither): how many STATEMENTS; the FAULT (nothing is counted).");
        for (String text : new String[] {"", "k12;", "x", "k", "k62;", "k12;".repeat(24)}) {
            NeverBothDoors x = new NeverBothDoors();
            Checks.told(x, text);
            c.due("count(7) behind " + text, x.count(7), 0);
            c.dueRefusals("behind " + text, x, 0, 0, 0, 0, 0, 0);
            c.due("none to tell behind " + text, x.burrow(), -1000);
            c.due("a burrow behind " + text, Checks.told(x, "k47;"), 1);
            c.due("room(4, 1) behind " + text, x.room(4, 1), 7);
        }
    }
}
